section
-- ===== PART A: goes FIRST, ahead of the names: the tables' words, and 'selects' of the private methods out of them =====
/-- a private method of a class that the tables say can be made, by its rows of tables_1 -/
def lw_okq (q : MethodName × Nat) : Prop := (q.1.cls ≠ "java/lang/invoke/MethodHandle" ∧ q.1.cls ≠ "java/lang/invoke/VarHandle") ∧ Cond.instantiable q.1.cls q.2 ∈ tables_1 ∧ Cond.privateMethod q.1 ∈ tables_1 ∧ Cond.instanceMethod q.1 ∈ tables_1
theorem lw_p0 : lw_okq (⟨"BeamTurnstiles$Hall", "begin", "(I)V"⟩, 1) := ⟨⟨by decide +kernel, by decide +kernel⟩, List.mem_of_getElem? (i := 18) (by decide +kernel), List.mem_of_getElem? (i := 122) (by decide +kernel), List.mem_of_getElem? (i := 123) (by decide +kernel)⟩
theorem lw_p1 : lw_okq (⟨"BeamTurnstiles$Hall", "end", "(I)V"⟩, 1) := ⟨⟨by decide +kernel, by decide +kernel⟩, List.mem_of_getElem? (i := 18) (by decide +kernel), List.mem_of_getElem? (i := 126) (by decide +kernel), List.mem_of_getElem? (i := 127) (by decide +kernel)⟩
theorem lw_p2 : lw_okq (⟨"BeamTurnstiles$Hall", "comeThrough", "(II)V"⟩, 1) := ⟨⟨by decide +kernel, by decide +kernel⟩, List.mem_of_getElem? (i := 18) (by decide +kernel), List.mem_of_getElem? (i := 130) (by decide +kernel), List.mem_of_getElem? (i := 131) (by decide +kernel)⟩
theorem lw_p3 : lw_okq (⟨"BeamTurnstiles$Hall", "oneMoreInside", "()V"⟩, 1) := ⟨⟨by decide +kernel, by decide +kernel⟩, List.mem_of_getElem? (i := 18) (by decide +kernel), List.mem_of_getElem? (i := 134) (by decide +kernel), List.mem_of_getElem? (i := 135) (by decide +kernel)⟩
theorem lw_p4 : lw_okq (⟨"BeamTurnstiles$Hall", "oneLessInside", "()V"⟩, 1) := ⟨⟨by decide +kernel, by decide +kernel⟩, List.mem_of_getElem? (i := 18) (by decide +kernel), List.mem_of_getElem? (i := 142) (by decide +kernel), List.mem_of_getElem? (i := 143) (by decide +kernel)⟩
theorem lw_p5 : lw_okq (⟨"BeamTurnstiles$Pad", "numberIn", "(II)I"⟩, 2) := ⟨⟨by decide +kernel, by decide +kernel⟩, List.mem_of_getElem? (i := 33) (by decide +kernel), List.mem_of_getElem? (i := 208) (by decide +kernel), List.mem_of_getElem? (i := 209) (by decide +kernel)⟩
theorem lw_p6 : lw_okq (⟨"BeamTurnstiles$Pad", "changeBeams", "(LBeamTurnstiles$Hall;II)I"⟩, 2) := ⟨⟨by decide +kernel, by decide +kernel⟩, List.mem_of_getElem? (i := 33) (by decide +kernel), List.mem_of_getElem? (i := 217) (by decide +kernel), List.mem_of_getElem? (i := 218) (by decide +kernel)⟩
theorem lw_p7 : lw_okq (⟨"BeamTurnstilesModel", "lays", "(III)V"⟩, 10) := ⟨⟨by decide +kernel, by decide +kernel⟩, List.mem_of_getElem? (i := 344) (by decide +kernel), List.mem_of_getElem? (i := 350) (by decide +kernel), List.mem_of_getElem? (i := 351) (by decide +kernel)⟩
theorem lw_p8 : lw_okq (⟨"BeamTurnstilesModel", "changes", "()V"⟩, 10) := ⟨⟨by decide +kernel, by decide +kernel⟩, List.mem_of_getElem? (i := 344) (by decide +kernel), List.mem_of_getElem? (i := 398) (by decide +kernel), List.mem_of_getElem? (i := 399) (by decide +kernel)⟩
theorem lw_p9 : lw_okq (⟨"BeamTurnstilesModel", "happens", "(II)I"⟩, 10) := ⟨⟨by decide +kernel, by decide +kernel⟩, List.mem_of_getElem? (i := 344) (by decide +kernel), List.mem_of_getElem? (i := 411) (by decide +kernel), List.mem_of_getElem? (i := 412) (by decide +kernel)⟩
theorem lw_p10 : lw_okq (⟨"BeamTurnstilesModel", "get", "(II)I"⟩, 10) := ⟨⟨by decide +kernel, by decide +kernel⟩, List.mem_of_getElem? (i := 344) (by decide +kernel), List.mem_of_getElem? (i := 415) (by decide +kernel), List.mem_of_getElem? (i := 416) (by decide +kernel)⟩
theorem lw_p11 : lw_okq (⟨"BeamTurnstilesModel", "isUnderWay", "(I)Z"⟩, 10) := ⟨⟨by decide +kernel, by decide +kernel⟩, List.mem_of_getElem? (i := 344) (by decide +kernel), List.mem_of_getElem? (i := 422) (by decide +kernel), List.mem_of_getElem? (i := 423) (by decide +kernel)⟩
theorem lw_p12 : lw_okq (⟨"BeamTurnstilesModel", "more", "(III)V"⟩, 10) := ⟨⟨by decide +kernel, by decide +kernel⟩, List.mem_of_getElem? (i := 344) (by decide +kernel), List.mem_of_getElem? (i := 426) (by decide +kernel), List.mem_of_getElem? (i := 427) (by decide +kernel)⟩
theorem lw_p13 : lw_okq (⟨"BeamTurnstilesModel", "ends", "(II)V"⟩, 10) := ⟨⟨by decide +kernel, by decide +kernel⟩, List.mem_of_getElem? (i := 344) (by decide +kernel), List.mem_of_getElem? (i := 430) (by decide +kernel), List.mem_of_getElem? (i := 431) (by decide +kernel)⟩
theorem lw_p14 : lw_okq (⟨"BeamTurnstilesModel", "isBlocked", "(I)Z"⟩, 10) := ⟨⟨by decide +kernel, by decide +kernel⟩, List.mem_of_getElem? (i := 344) (by decide +kernel), List.mem_of_getElem? (i := 434) (by decide +kernel), List.mem_of_getElem? (i := 435) (by decide +kernel)⟩
theorem lw_p15 : lw_okq (⟨"BeamTurnstilesModel", "counts", "(II)V"⟩, 10) := ⟨⟨by decide +kernel, by decide +kernel⟩, List.mem_of_getElem? (i := 344) (by decide +kernel), List.mem_of_getElem? (i := 438) (by decide +kernel), List.mem_of_getElem? (i := 439) (by decide +kernel)⟩
def lw_privs_1 : List (MethodName × Nat) := [(⟨"BeamTurnstiles$Hall", "begin", "(I)V"⟩, 1), (⟨"BeamTurnstiles$Hall", "end", "(I)V"⟩, 1), (⟨"BeamTurnstiles$Hall", "comeThrough", "(II)V"⟩, 1), (⟨"BeamTurnstiles$Hall", "oneMoreInside", "()V"⟩, 1), (⟨"BeamTurnstiles$Hall", "oneLessInside", "()V"⟩, 1), (⟨"BeamTurnstiles$Pad", "numberIn", "(II)I"⟩, 2), (⟨"BeamTurnstiles$Pad", "changeBeams", "(LBeamTurnstiles$Hall;II)I"⟩, 2), (⟨"BeamTurnstilesModel", "lays", "(III)V"⟩, 10), (⟨"BeamTurnstilesModel", "changes", "()V"⟩, 10), (⟨"BeamTurnstilesModel", "happens", "(II)I"⟩, 10), (⟨"BeamTurnstilesModel", "get", "(II)I"⟩, 10), (⟨"BeamTurnstilesModel", "isUnderWay", "(I)Z"⟩, 10), (⟨"BeamTurnstilesModel", "more", "(III)V"⟩, 10), (⟨"BeamTurnstilesModel", "ends", "(II)V"⟩, 10), (⟨"BeamTurnstilesModel", "isBlocked", "(I)Z"⟩, 10), (⟨"BeamTurnstilesModel", "counts", "(II)V"⟩, 10)]
theorem lw_r1 : ∀ q ∈ lw_privs_1, lw_okq q := List.forall_mem_cons.mpr ⟨lw_p0, List.forall_mem_cons.mpr ⟨lw_p1, List.forall_mem_cons.mpr ⟨lw_p2, List.forall_mem_cons.mpr ⟨lw_p3, List.forall_mem_cons.mpr ⟨lw_p4, List.forall_mem_cons.mpr ⟨lw_p5, List.forall_mem_cons.mpr ⟨lw_p6, List.forall_mem_cons.mpr ⟨lw_p7, List.forall_mem_cons.mpr ⟨lw_p8, List.forall_mem_cons.mpr ⟨lw_p9, List.forall_mem_cons.mpr ⟨lw_p10, List.forall_mem_cons.mpr ⟨lw_p11, List.forall_mem_cons.mpr ⟨lw_p12, List.forall_mem_cons.mpr ⟨lw_p13, List.forall_mem_cons.mpr ⟨lw_p14, List.forall_mem_cons.mpr ⟨lw_p15, fun _ h => absurd h List.not_mem_nil⟩⟩⟩⟩⟩⟩⟩⟩⟩⟩⟩⟩⟩⟩⟩⟩
theorem lw_p16 : lw_okq (⟨"BeamTurnstilesModel", "comesIn", "()V"⟩, 10) := ⟨⟨by decide +kernel, by decide +kernel⟩, List.mem_of_getElem? (i := 344) (by decide +kernel), List.mem_of_getElem? (i := 442) (by decide +kernel), List.mem_of_getElem? (i := 443) (by decide +kernel)⟩
theorem lw_p17 : lw_okq (⟨"BeamTurnstilesModel", "goesOut", "()V"⟩, 10) := ⟨⟨by decide +kernel, by decide +kernel⟩, List.mem_of_getElem? (i := 344) (by decide +kernel), List.mem_of_getElem? (i := 446) (by decide +kernel), List.mem_of_getElem? (i := 447) (by decide +kernel)⟩
theorem lw_p18 : lw_okq (⟨"BeamTurnstilesModel", "blocked", "()I"⟩, 10) := ⟨⟨by decide +kernel, by decide +kernel⟩, List.mem_of_getElem? (i := 344) (by decide +kernel), List.mem_of_getElem? (i := 456) (by decide +kernel), List.mem_of_getElem? (i := 457) (by decide +kernel)⟩
theorem lw_p19 : lw_okq (⟨"BeamTurnstilesModel", "placeOf", "(I)I"⟩, 10) := ⟨⟨by decide +kernel, by decide +kernel⟩, List.mem_of_getElem? (i := 344) (by decide +kernel), List.mem_of_getElem? (i := 475) (by decide +kernel), List.mem_of_getElem? (i := 476) (by decide +kernel)⟩
theorem lw_p20 : lw_okq (⟨"BeamTurnstilesModel", "allOf", "(I)I"⟩, 10) := ⟨⟨by decide +kernel, by decide +kernel⟩, List.mem_of_getElem? (i := 344) (by decide +kernel), List.mem_of_getElem? (i := 486) (by decide +kernel), List.mem_of_getElem? (i := 487) (by decide +kernel)⟩
theorem lw_p21 : lw_okq (⟨"BeamTurnstilesModel", "underWay", "()I"⟩, 10) := ⟨⟨by decide +kernel, by decide +kernel⟩, List.mem_of_getElem? (i := 344) (by decide +kernel), List.mem_of_getElem? (i := 490) (by decide +kernel), List.mem_of_getElem? (i := 491) (by decide +kernel)⟩
theorem lw_p22 : lw_okq (⟨"BeamTurnstilesModel", "through", "(I)I"⟩, 10) := ⟨⟨by decide +kernel, by decide +kernel⟩, List.mem_of_getElem? (i := 344) (by decide +kernel), List.mem_of_getElem? (i := 498) (by decide +kernel), List.mem_of_getElem? (i := 499) (by decide +kernel)⟩
theorem lw_p23 : lw_okq (⟨"BeamTurnstilesModel", "readsEvent", "()Z"⟩, 10) := ⟨⟨by decide +kernel, by decide +kernel⟩, List.mem_of_getElem? (i := 344) (by decide +kernel), List.mem_of_getElem? (i := 514) (by decide +kernel), List.mem_of_getElem? (i := 515) (by decide +kernel)⟩
theorem lw_p24 : lw_okq (⟨"BeamTurnstilesModel", "takesOne", "(I)Z"⟩, 10) := ⟨⟨by decide +kernel, by decide +kernel⟩, List.mem_of_getElem? (i := 344) (by decide +kernel), List.mem_of_getElem? (i := 518) (by decide +kernel), List.mem_of_getElem? (i := 519) (by decide +kernel)⟩
theorem lw_p25 : lw_okq (⟨"BeamTurnstilesModel", "isHere", "(II)Z"⟩, 10) := ⟨⟨by decide +kernel, by decide +kernel⟩, List.mem_of_getElem? (i := 344) (by decide +kernel), List.mem_of_getElem? (i := 522) (by decide +kernel), List.mem_of_getElem? (i := 523) (by decide +kernel)⟩
theorem lw_p26 : lw_okq (⟨"BeamTurnstilesModel", "readsTicks", "()Z"⟩, 10) := ⟨⟨by decide +kernel, by decide +kernel⟩, List.mem_of_getElem? (i := 344) (by decide +kernel), List.mem_of_getElem? (i := 526) (by decide +kernel), List.mem_of_getElem? (i := 527) (by decide +kernel)⟩
theorem lw_p27 : lw_okq (⟨"BeamTurnstilesModel", "beam", "()I"⟩, 10) := ⟨⟨by decide +kernel, by decide +kernel⟩, List.mem_of_getElem? (i := 344) (by decide +kernel), List.mem_of_getElem? (i := 530) (by decide +kernel), List.mem_of_getElem? (i := 531) (by decide +kernel)⟩
theorem lw_p28 : lw_okq (⟨"BeamTurnstilesModel", "keeps", "()V"⟩, 10) := ⟨⟨by decide +kernel, by decide +kernel⟩, List.mem_of_getElem? (i := 344) (by decide +kernel), List.mem_of_getElem? (i := 534) (by decide +kernel), List.mem_of_getElem? (i := 535) (by decide +kernel)⟩
theorem lw_p29 : lw_okq (⟨"BeamTurnstilesModel", "reads", "()I"⟩, 10) := ⟨⟨by decide +kernel, by decide +kernel⟩, List.mem_of_getElem? (i := 344) (by decide +kernel), List.mem_of_getElem? (i := 538) (by decide +kernel), List.mem_of_getElem? (i := 539) (by decide +kernel)⟩
theorem lw_p30 : lw_okq (⟨"BeamTurnstilesModel", "comesBack", "()V"⟩, 10) := ⟨⟨by decide +kernel, by decide +kernel⟩, List.mem_of_getElem? (i := 344) (by decide +kernel), List.mem_of_getElem? (i := 542) (by decide +kernel), List.mem_of_getElem? (i := 543) (by decide +kernel)⟩
def lw_privs_2 : List (MethodName × Nat) := [(⟨"BeamTurnstilesModel", "comesIn", "()V"⟩, 10), (⟨"BeamTurnstilesModel", "goesOut", "()V"⟩, 10), (⟨"BeamTurnstilesModel", "blocked", "()I"⟩, 10), (⟨"BeamTurnstilesModel", "placeOf", "(I)I"⟩, 10), (⟨"BeamTurnstilesModel", "allOf", "(I)I"⟩, 10), (⟨"BeamTurnstilesModel", "underWay", "()I"⟩, 10), (⟨"BeamTurnstilesModel", "through", "(I)I"⟩, 10), (⟨"BeamTurnstilesModel", "readsEvent", "()Z"⟩, 10), (⟨"BeamTurnstilesModel", "takesOne", "(I)Z"⟩, 10), (⟨"BeamTurnstilesModel", "isHere", "(II)Z"⟩, 10), (⟨"BeamTurnstilesModel", "readsTicks", "()Z"⟩, 10), (⟨"BeamTurnstilesModel", "beam", "()I"⟩, 10), (⟨"BeamTurnstilesModel", "keeps", "()V"⟩, 10), (⟨"BeamTurnstilesModel", "reads", "()I"⟩, 10), (⟨"BeamTurnstilesModel", "comesBack", "()V"⟩, 10)]
theorem lw_r2 : ∀ q ∈ lw_privs_2, lw_okq q := List.forall_mem_cons.mpr ⟨lw_p16, List.forall_mem_cons.mpr ⟨lw_p17, List.forall_mem_cons.mpr ⟨lw_p18, List.forall_mem_cons.mpr ⟨lw_p19, List.forall_mem_cons.mpr ⟨lw_p20, List.forall_mem_cons.mpr ⟨lw_p21, List.forall_mem_cons.mpr ⟨lw_p22, List.forall_mem_cons.mpr ⟨lw_p23, List.forall_mem_cons.mpr ⟨lw_p24, List.forall_mem_cons.mpr ⟨lw_p25, List.forall_mem_cons.mpr ⟨lw_p26, List.forall_mem_cons.mpr ⟨lw_p27, List.forall_mem_cons.mpr ⟨lw_p28, List.forall_mem_cons.mpr ⟨lw_p29, List.forall_mem_cons.mpr ⟨lw_p30, fun _ h => absurd h List.not_mem_nil⟩⟩⟩⟩⟩⟩⟩⟩⟩⟩⟩⟩⟩⟩⟩
def lw_privs : List (MethodName × Nat) := lw_privs_1 ++ (lw_privs_2)
def lw_tbl : List Cond := k2_sels lw_privs ++ tables_1
theorem lw_privs_ok : ∀ q ∈ lw_privs, lw_okq q := by
  show ∀ q ∈ lw_privs_1 ++ (lw_privs_2), lw_okq q
  exact List.forall_mem_append.mpr ⟨lw_r1, lw_r2⟩
-- ===== end of PART A; then your names; then what follows =====
end
section
/-! ===== BEGIN words of one list among another's, by their places ===== -/
theorem goodIn_r {big : List Cond} (ws : List Cond) (ps : List Nat) (hp : ws = ps.filterMap (fun i => big[i]?)) (h : ws.all goodWord = true) : GoodIn big ws := by
  intro w hw
  have h1 := List.all_eq_true.mp h w hw
  rw [hp] at hw
  obtain ⟨i, -, hi⟩ := List.mem_filterMap.mp hw
  have hm : w ∈ big := by first | exact List.mem_of_getElem? hi | exact List.getElem?_mem hi
  exact ⟨hm, good_of_word h1⟩
theorem goodIn_app {big a b : List Cond} (ha : GoodIn big a) (hb : GoodIn big b) : GoodIn big (a ++ b) := fun w h => (List.mem_append.mp h).elim (ha w) (hb w)
theorem goodIn_ca {big a b : List Cond} {c : Cond} (ha : GoodIn big (c :: a)) (hb : GoodIn big b) : GoodIn big (c :: (a ++ b)) := fun w h => (List.mem_cons.mp h).elim (fun e => ha w (List.mem_cons.mpr (Or.inl e))) (fun h => (List.mem_append.mp h).elim (fun h => ha w (List.mem_cons.mpr (Or.inr h))) (hb w))
theorem goodIn_sub {big ws : List Cond} (hm : ∀ w ∈ ws, w ∈ big) (h : ws.all goodWord = true) : GoodIn big ws := fun w hw => ⟨hm w hw, good_of_word (List.all_eq_true.mp h w hw)⟩
/-! ===== END ===== -/

/-! ===== BEGIN new T[n][m]: the outer array a place, the inner ones among the pooled ===== -/
/-- f, but v at every address of l -/
def vr_up {α : Type} (f : Nat → α) (l : List Nat) (v : α) : Nat → α := fun a => if a ∈ l then v else f a
theorem vr_up_in {α : Type} {f : Nat → α} {l : List Nat} {v : α} {a : Nat} (h : a ∈ l) : vr_up f l v a = v := if_pos h
theorem vr_up_ne {α : Type} {f : Nat → α} {l : List Nat} {v : α} {a : Nat} (h : a ∉ l) : vr_up f l v a = f a := if_neg h
theorem vr_rows {L l : List Nat} {f : Nat → va_E} {e : va_E} (h : ∀ a, a ∈ l → a ∉ L) : va_pl L f ++ l.map (fun a => (a, e)) = va_pl (L ++ l) (vr_up f l e) := by
  unfold va_pl
  rw [List.map_append]
  congr 1
  · apply List.map_congr_left
    intro a ha
    rw [vr_up_ne (fun q => h a q ha)]
  · apply List.map_congr_left
    intro a ha
    rw [vr_up_in ha]
theorem vr_lay {X rows : va_W} {x : Nat × va_E} {pl : va_W} {D : va_G} {cl : List vw_C} {H : Heap} (hP : va_P D cl (((X ++ pl) ++ [x]) ++ rows) H) : va_P D cl ((X ++ [x]) ++ (pl ++ rows)) H := by
  rw [List.append_assoc (X ++ pl)] at hP
  have h := va_P.swap hP
  rw [← List.append_assoc X] at h
  have h2 := va_P.swap h
  rw [List.append_assoc (X ++ [x])] at h2
  exact h2
theorem vr_layD {X rows : va_W} {x : Nat × va_E} {pl : va_W} {A : Nat → Prop} (hD : va_D A (((X ++ pl) ++ [x]) ++ rows)) : va_D A ((X ++ [x]) ++ (pl ++ rows)) := by
  rw [List.append_assoc (X ++ pl)] at hD
  have h := va_D.swap hD
  rw [← List.append_assoc X] at h
  have h2 := va_D.swap h
  rw [List.append_assoc (X ++ [x])] at h2
  exact h2
theorem vr_outer (c : ClassId) (N h0 : Nat) : ∀ i : Nat, Jvm.Free.Multi.outerC c N h0 i = arrV c N (fun j => va_rf (if j < i then some (h0 + 1 + j) else none))
  | 0 => by
    show ({ cls := c, slots := Array.replicate N .null, vm := .none } : Cell) = _
    rw [arrV_new]
    refine congrArg (arrV c N) (funext fun j => ?_)
    simp [va_rf]
  | i + 1 => by
    show (Jvm.Free.Multi.outerC c N h0 i).setSlot i (.ref (h0 + 1 + i)) = _
    rw [vr_outer c N h0 i, arrV_store]
    refine congrArg (arrV c N) (funext fun j => ?_)
    by_cases e : j = i
    · subst e
      simp [updV, va_rf]
    · by_cases h : j < i
      · simp [updV, e, h, Nat.lt_succ_of_lt h]
      · simp [updV, e, h, show ¬ j < i + 1 by omega]
/-! ===== END ===== -/
end
section
def RX0 : String := "BeamTurnstiles$Hall"
def TX0 : u_T := fun k => match k with
  | _ => ("BeamTurnstiles$Hall", "row", "[I", true)
def tyX0 : Nat → FieldType := fun k => match k with
  | _ => .array .int
abbrev wsX00 : List Cond := u_ws RX0 TX0 1
theorem nmX0 : ∀ a, a < 1 → ∀ b, b < 1 → a ≠ b → (TX0 a).2.1 ≠ (TX0 b).2.1 := by decide +kernel
theorem tyX0_ok : ∀ k, k < 1 → parseFieldDescriptor (TX0 k).2.2.1 = some (tyX0 k) := by decide +kernel
abbrev cX0_init : ByteArray := prog_2_method_1_code
def yX0_init : MethodName := ⟨RX0, "<init>", "()V"⟩
abbrev cX0_partOf : ByteArray := prog_2_method_2_code
def yX0_partOf : MethodName := ⟨RX0, "partOf", "(I)I"⟩
abbrev cX0_change : ByteArray := prog_2_method_3_code
def yX0_change : MethodName := ⟨RX0, "change", "(II)I"⟩
abbrev cX0_free : ByteArray := prog_2_method_4_code
def yX0_free : MethodName := ⟨RX0, "free", "(I)I"⟩
abbrev cX0_begin : ByteArray := prog_2_method_5_code
def yX0_begin : MethodName := ⟨RX0, "begin", "(I)V"⟩
abbrev cX0_end : ByteArray := prog_2_method_6_code
def yX0_end : MethodName := ⟨RX0, "end", "(I)V"⟩
abbrev cX0_comeThrough : ByteArray := prog_2_method_7_code
def yX0_comeThrough : MethodName := ⟨RX0, "comeThrough", "(II)V"⟩
abbrev cX0_oneMoreInside : ByteArray := prog_2_method_8_code
def yX0_oneMoreInside : MethodName := ⟨RX0, "oneMoreInside", "()V"⟩
abbrev cX0_oneLessInside : ByteArray := prog_2_method_9_code
def yX0_oneLessInside : MethodName := ⟨RX0, "oneLessInside", "()V"⟩
abbrev cX0_becomeInside : ByteArray := prog_2_method_10_code
def yX0_becomeInside : MethodName := ⟨RX0, "becomeInside", "(I)V"⟩
abbrev cX0_hasRoomFor : ByteArray := prog_2_method_11_code
def yX0_hasRoomFor : MethodName := ⟨RX0, "hasRoomFor", "(I)Z"⟩
abbrev cX0_goBy : ByteArray := prog_2_method_12_code
def yX0_goBy : MethodName := ⟨RX0, "goBy", "(I)V"⟩
abbrev cX0_isUnderWay : ByteArray := prog_2_method_13_code
def yX0_isUnderWay : MethodName := ⟨RX0, "isUnderWay", "(I)Z"⟩
abbrev cX0_isSure : ByteArray := prog_2_method_14_code
def yX0_isSure : MethodName := ⟨RX0, "isSure", "(I)Z"⟩
abbrev cX0_placeOf : ByteArray := prog_2_method_15_code
def yX0_placeOf : MethodName := ⟨RX0, "placeOf", "(I)I"⟩
abbrev cX0_ticksUnderWay : ByteArray := prog_2_method_16_code
def yX0_ticksUnderWay : MethodName := ⟨RX0, "ticksUnderWay", "(I)I"⟩
abbrev cX0_isBlocked : ByteArray := prog_2_method_17_code
def yX0_isBlocked : MethodName := ⟨RX0, "isBlocked", "(I)Z"⟩
abbrev cX0_blockedMask : ByteArray := prog_2_method_18_code
def yX0_blockedMask : MethodName := ⟨RX0, "blockedMask", "()I"⟩
abbrev cX0_underWayMask : ByteArray := prog_2_method_19_code
def yX0_underWayMask : MethodName := ⟨RX0, "underWayMask", "()I"⟩
abbrev cX0_sumOfGates : ByteArray := prog_2_method_20_code
def yX0_sumOfGates : MethodName := ⟨RX0, "sumOfGates", "(I)I"⟩
abbrev cX0_passagesThrough : ByteArray := prog_2_method_21_code
def yX0_passagesThrough : MethodName := ⟨RX0, "passagesThrough", "(I)I"⟩
abbrev cX0_tell : ByteArray := prog_2_method_22_code
def yX0_tell : MethodName := ⟨RX0, "tell", "(II)I"⟩
def RX1 : String := "BeamTurnstiles$History"
def TX1 : u_T := fun k => match k with
  | 0 => ("BeamTurnstiles$History", "rows", "[[I", true)
  | 1 => ("BeamTurnstiles$History", "next", "I", false)
  | _ => ("BeamTurnstiles$History", "size", "I", false)
def tyX1 : Nat → FieldType := fun k => match k with
  | 0 => .array (.array .int)
  | 1 => .int
  | _ => .int
abbrev wsX10 : List Cond := u_ws RX1 TX1 3
theorem nmX1 : ∀ a, a < 3 → ∀ b, b < 3 → a ≠ b → (TX1 a).2.1 ≠ (TX1 b).2.1 := by decide +kernel
theorem tyX1_ok : ∀ k, k < 3 → parseFieldDescriptor (TX1 k).2.2.1 = some (tyX1 k) := by decide +kernel
abbrev cX1_init : ByteArray := prog_3_method_1_code
def yX1_init : MethodName := ⟨RX1, "<init>", "()V"⟩
abbrev cX1_keep : ByteArray := prog_3_method_2_code
def yX1_keep : MethodName := ⟨RX1, "keep", "([I)V"⟩
abbrev cX1_takeBack : ByteArray := prog_3_method_3_code
def yX1_takeBack : MethodName := ⟨RX1, "takeBack", "([I)V"⟩
def RX2 : String := "BeamTurnstiles$Pad"
def TX2 : u_T := fun k => match k with
  | 0 => ("BeamTurnstiles$Pad", "text", "[C", true)
  | _ => ("BeamTurnstiles$Pad", "length", "I", false)
def tyX2 : Nat → FieldType := fun k => match k with
  | 0 => .array .char
  | _ => .int
abbrev wsX20 : List Cond := u_ws RX2 TX2 2
theorem nmX2 : ∀ a, a < 2 → ∀ b, b < 2 → a ≠ b → (TX2 a).2.1 ≠ (TX2 b).2.1 := by decide +kernel
theorem tyX2_ok : ∀ k, k < 2 → parseFieldDescriptor (TX2 k).2.2.1 = some (tyX2 k) := by decide +kernel
abbrev cX2_init : ByteArray := prog_4_method_1_code
def yX2_init : MethodName := ⟨RX2, "<init>", "()V"⟩
abbrev cX2_numberOf : ByteArray := prog_4_method_2_code
def yX2_numberOf : MethodName := ⟨RX2, "numberOf", "(J)I"⟩
abbrev cX2_hasRoomFor : ByteArray := prog_4_method_3_code
def yX2_hasRoomFor : MethodName := ⟨RX2, "hasRoomFor", "(I)Z"⟩
abbrev cX2_append : ByteArray := prog_4_method_4_code
def yX2_append : MethodName := ⟨RX2, "append", "(JI)V"⟩
abbrev cX2_empty : ByteArray := prog_4_method_5_code
def yX2_empty : MethodName := ⟨RX2, "empty", "()V"⟩
abbrev cX2_firstFault : ByteArray := prog_4_method_6_code
def yX2_firstFault : MethodName := ⟨RX2, "firstFault", "()I"⟩
abbrev cX2_stateAfter : ByteArray := prog_4_method_7_code
def yX2_stateAfter : MethodName := ⟨RX2, "stateAfter", "(IC)I"⟩
abbrev cX2_afterEvent : ByteArray := prog_4_method_8_code
def yX2_afterEvent : MethodName := ⟨RX2, "afterEvent", "(C)I"⟩
abbrev cX2_isDigit : ByteArray := prog_4_method_9_code
def yX2_isDigit : MethodName := ⟨RX2, "isDigit", "(C)Z"⟩
abbrev cX2_isGateDigit : ByteArray := prog_4_method_10_code
def yX2_isGateDigit : MethodName := ⟨RX2, "isGateDigit", "(C)Z"⟩
abbrev cX2_beamOf : ByteArray := prog_4_method_11_code
def yX2_beamOf : MethodName := ⟨RX2, "beamOf", "(C)I"⟩
abbrev cX2_happenIn : ByteArray := prog_4_method_12_code
def yX2_happenIn : MethodName := ⟨RX2, "happenIn", "(LBeamTurnstiles$Hall;)I"⟩
abbrev cX2_changeBeams : ByteArray := prog_4_method_13_code
def yX2_changeBeams : MethodName := ⟨RX2, "changeBeams", "(LBeamTurnstiles$Hall;II)I"⟩
abbrev cX2_numberIn : ByteArray := prog_4_method_14_code
def yX2_numberIn : MethodName := ⟨RX2, "numberIn", "(II)I"⟩
abbrev cX2_letGoBy : ByteArray := prog_4_method_15_code
def yX2_letGoBy : MethodName := ⟨RX2, "letGoBy", "(LBeamTurnstiles$Hall;I)V"⟩
def RX3 : String := "BeamTurnstiles"
def TX3 : u_T := fun k => match k with
  | 0 => ("BeamTurnstiles", "hall", "LBeamTurnstiles$Hall;", true)
  | 1 => ("BeamTurnstiles", "trial", "LBeamTurnstiles$Hall;", true)
  | 2 => ("BeamTurnstiles", "pad", "LBeamTurnstiles$Pad;", true)
  | 3 => ("BeamTurnstiles", "history", "LBeamTurnstiles$History;", true)
  | 4 => ("BeamTurnstiles", "slots", "[[I", true)
  | _ => ("BeamTurnstiles", "saved", "[Z", true)
def tyX3 : Nat → FieldType := fun k => match k with
  | 0 => .object "BeamTurnstiles$Hall"
  | 1 => .object "BeamTurnstiles$Hall"
  | 2 => .object "BeamTurnstiles$Pad"
  | 3 => .object "BeamTurnstiles$History"
  | 4 => .array (.array .int)
  | _ => .array .boolean
abbrev wsX30 : List Cond := u_ws RX3 TX3 6
theorem nmX3 : ∀ a, a < 6 → ∀ b, b < 6 → a ≠ b → (TX3 a).2.1 ≠ (TX3 b).2.1 := by decide +kernel
theorem tyX3_ok : ∀ k, k < 6 → parseFieldDescriptor (TX3 k).2.2.1 = some (tyX3 k) := by decide +kernel
abbrev cX3_init : ByteArray := prog_1_method_1_code
def yX3_init : MethodName := ⟨RX3, "<init>", "()V"⟩
abbrev cX3_set : ByteArray := prog_1_method_2_code
def yX3_set : MethodName := ⟨RX3, "set", "(II)I"⟩
abbrev cX3_event : ByteArray := prog_1_method_3_code
def yX3_event : MethodName := ⟨RX3, "event", "(II)I"⟩
abbrev cX3_pass : ByteArray := prog_1_method_4_code
def yX3_pass : MethodName := ⟨RX3, "pass", "(I)I"⟩
abbrev cX3_read : ByteArray := prog_1_method_5_code
def yX3_read : MethodName := ⟨RX3, "read", "()I"⟩
abbrev cX3_correct : ByteArray := prog_1_method_6_code
def yX3_correct : MethodName := ⟨RX3, "correct", "(I)I"⟩
abbrev cX3_clear : ByteArray := prog_1_method_7_code
def yX3_clear : MethodName := ⟨RX3, "clear", "(I)I"⟩
abbrev cX3_gate : ByteArray := prog_1_method_8_code
def yX3_gate : MethodName := ⟨RX3, "gate", "(II)I"⟩
abbrev cX3_count : ByteArray := prog_1_method_9_code
def yX3_count : MethodName := ⟨RX3, "count", "(I)I"⟩
abbrev cX3_mean : ByteArray := prog_1_method_10_code
def yX3_mean : MethodName := ⟨RX3, "mean", "(I)I"⟩
abbrev cX3_busiest : ByteArray := prog_1_method_11_code
def yX3_busiest : MethodName := ⟨RX3, "busiest", "()I"⟩
abbrev cX3_ifRead : ByteArray := prog_1_method_12_code
def yX3_ifRead : MethodName := ⟨RX3, "ifRead", "(I)I"⟩
abbrev cX3_eventsTo : ByteArray := prog_1_method_13_code
def yX3_eventsTo : MethodName := ⟨RX3, "eventsTo", "(II)I"⟩
abbrev cX3_untilBlocked : ByteArray := prog_1_method_14_code
def yX3_untilBlocked : MethodName := ⟨RX3, "untilBlocked", "()I"⟩
abbrev cX3_put : ByteArray := prog_1_method_15_code
def yX3_put : MethodName := ⟨RX3, "put", "(J)I"⟩
abbrev cX3_wipe : ByteArray := prog_1_method_16_code
def yX3_wipe : MethodName := ⟨RX3, "wipe", "()I"⟩
abbrev cX3_fault : ByteArray := prog_1_method_17_code
def yX3_fault : MethodName := ⟨RX3, "fault", "()I"⟩
abbrev cX3_undo : ByteArray := prog_1_method_18_code
def yX3_undo : MethodName := ⟨RX3, "undo", "()I"⟩
abbrev cX3_save : ByteArray := prog_1_method_19_code
def yX3_save : MethodName := ⟨RX3, "save", "(I)I"⟩
abbrev cX3_restore : ByteArray := prog_1_method_20_code
def yX3_restore : MethodName := ⟨RX3, "restore", "(I)I"⟩
abbrev cX3_isNoGate : ByteArray := prog_1_method_21_code
def yX3_isNoGate : MethodName := ⟨RX3, "isNoGate", "(I)Z"⟩
abbrev cX3_isNoSlot : ByteArray := prog_1_method_22_code
def yX3_isNoSlot : MethodName := ⟨RX3, "isNoSlot", "(I)Z"⟩
abbrev cX3_copyRow : ByteArray := prog_1_method_23_code
def yX3_copyRow : MethodName := ⟨RX3, "copyRow", "([I[I)V"⟩
def RX4 : String := "BeamTurnstilesModel"
def TX4 : u_T := fun k => match k with
  | 0 => ("BeamTurnstilesModel", "all", "[I", true)
  | 1 => ("BeamTurnstilesModel", "kept", "[I", true)
  | 2 => ("BeamTurnstilesModel", "history", "[I", true)
  | 3 => ("BeamTurnstilesModel", "historyLong", "I", false)
  | 4 => ("BeamTurnstilesModel", "slots", "[I", true)
  | 5 => ("BeamTurnstilesModel", "isSaved", "[I", true)
  | 6 => ("BeamTurnstilesModel", "text", "[I", true)
  | 7 => ("BeamTurnstilesModel", "textLong", "I", false)
  | 8 => ("BeamTurnstilesModel", "spot", "I", false)
  | _ => ("BeamTurnstilesModel", "number", "I", false)
def tyX4 : Nat → FieldType := fun k => match k with
  | 0 => .array .int
  | 1 => .array .int
  | 2 => .array .int
  | 3 => .int
  | 4 => .array .int
  | 5 => .array .int
  | 6 => .array .int
  | 7 => .int
  | 8 => .int
  | _ => .int
abbrev wsX40 : List Cond := u_ws RX4 TX4 10
theorem nmX4 : ∀ a, a < 10 → ∀ b, b < 10 → a ≠ b → (TX4 a).2.1 ≠ (TX4 b).2.1 := by decide +kernel
theorem tyX4_ok : ∀ k, k < 10 → parseFieldDescriptor (TX4 k).2.2.1 = some (tyX4 k) := by decide +kernel
abbrev cX4_init : ByteArray := prog_6_method_1_code
def yX4_init : MethodName := ⟨RX4, "<init>", "()V"⟩
abbrev cX4_in : ByteArray := prog_6_method_3_code
def yX4_in : MethodName := ⟨RX4, "in", "(JJJ)Z"⟩
abbrev cX4_changes : ByteArray := prog_6_method_4_code
def yX4_changes : MethodName := ⟨RX4, "changes", "()V"⟩
abbrev cX4_keeps : ByteArray := prog_6_method_5_code
def yX4_keeps : MethodName := ⟨RX4, "keeps", "()V"⟩
abbrev cX4_comesBack : ByteArray := prog_6_method_6_code
def yX4_comesBack : MethodName := ⟨RX4, "comesBack", "()V"⟩
abbrev cX4_isGate : ByteArray := prog_6_method_7_code
def yX4_isGate : MethodName := ⟨RX4, "isGate", "(I)Z"⟩
abbrev cX4_get : ByteArray := prog_6_method_8_code
def yX4_get : MethodName := ⟨RX4, "get", "(II)I"⟩
abbrev cX4_lays : ByteArray := prog_6_method_9_code
def yX4_lays : MethodName := ⟨RX4, "lays", "(III)V"⟩
abbrev cX4_more : ByteArray := prog_6_method_10_code
def yX4_more : MethodName := ⟨RX4, "more", "(III)V"⟩
abbrev cX4_isUnderWay : ByteArray := prog_6_method_11_code
def yX4_isUnderWay : MethodName := ⟨RX4, "isUnderWay", "(I)Z"⟩
abbrev cX4_isBlocked : ByteArray := prog_6_method_12_code
def yX4_isBlocked : MethodName := ⟨RX4, "isBlocked", "(I)Z"⟩
abbrev cX4_lookBehind : ByteArray := prog_6_method_13_code
def yX4_lookBehind : MethodName := ⟨RX4, "lookBehind", "(II)I"⟩
abbrev cX4_comesIn : ByteArray := prog_6_method_14_code
def yX4_comesIn : MethodName := ⟨RX4, "comesIn", "()V"⟩
abbrev cX4_goesOut : ByteArray := prog_6_method_15_code
def yX4_goesOut : MethodName := ⟨RX4, "goesOut", "()V"⟩
abbrev cX4_counts : ByteArray := prog_6_method_16_code
def yX4_counts : MethodName := ⟨RX4, "counts", "(II)V"⟩
abbrev cX4_ends : ByteArray := prog_6_method_17_code
def yX4_ends : MethodName := ⟨RX4, "ends", "(II)V"⟩
abbrev cX4_happens : ByteArray := prog_6_method_18_code
def yX4_happens : MethodName := ⟨RX4, "happens", "(II)I"⟩
abbrev cX4_blocked : ByteArray := prog_6_method_19_code
def yX4_blocked : MethodName := ⟨RX4, "blocked", "()I"⟩
abbrev cX4_allOf : ByteArray := prog_6_method_20_code
def yX4_allOf : MethodName := ⟨RX4, "allOf", "(I)I"⟩
abbrev cX4_isSetting : ByteArray := prog_6_method_21_code
def yX4_isSetting : MethodName := ⟨RX4, "isSetting", "(II)Z"⟩
abbrev cX4_set : ByteArray := prog_6_method_22_code
def yX4_set : MethodName := ⟨RX4, "set", "(II)I"⟩
abbrev cX4_event : ByteArray := prog_6_method_23_code
def yX4_event : MethodName := ⟨RX4, "event", "(II)I"⟩
abbrev cX4_bits : ByteArray := prog_6_method_24_code
def yX4_bits : MethodName := ⟨RX4, "bits", "(I)I"⟩
abbrev cX4_pass : ByteArray := prog_6_method_25_code
def yX4_pass : MethodName := ⟨RX4, "pass", "(I)I"⟩
abbrev cX4_correct : ByteArray := prog_6_method_26_code
def yX4_correct : MethodName := ⟨RX4, "correct", "(I)I"⟩
abbrev cX4_clear : ByteArray := prog_6_method_27_code
def yX4_clear : MethodName := ⟨RX4, "clear", "(I)I"⟩
abbrev cX4_placeOf : ByteArray := prog_6_method_28_code
def yX4_placeOf : MethodName := ⟨RX4, "placeOf", "(I)I"⟩
abbrev cX4_gate : ByteArray := prog_6_method_29_code
def yX4_gate : MethodName := ⟨RX4, "gate", "(II)I"⟩
abbrev cX4_underWay : ByteArray := prog_6_method_30_code
def yX4_underWay : MethodName := ⟨RX4, "underWay", "()I"⟩
abbrev cX4_count : ByteArray := prog_6_method_31_code
def yX4_count : MethodName := ⟨RX4, "count", "(I)I"⟩
abbrev cX4_through : ByteArray := prog_6_method_32_code
def yX4_through : MethodName := ⟨RX4, "through", "(I)I"⟩
abbrev cX4_mean : ByteArray := prog_6_method_33_code
def yX4_mean : MethodName := ⟨RX4, "mean", "(I)I"⟩
abbrev cX4_busiest : ByteArray := prog_6_method_34_code
def yX4_busiest : MethodName := ⟨RX4, "busiest", "()I"⟩
abbrev cX4_ifRead : ByteArray := prog_6_method_35_code
def yX4_ifRead : MethodName := ⟨RX4, "ifRead", "(I)I"⟩
abbrev cX4_eventsTo : ByteArray := prog_6_method_36_code
def yX4_eventsTo : MethodName := ⟨RX4, "eventsTo", "(II)I"⟩
abbrev cX4_untilBlocked : ByteArray := prog_6_method_37_code
def yX4_untilBlocked : MethodName := ⟨RX4, "untilBlocked", "()I"⟩
abbrev cX4_charactersOf : ByteArray := prog_6_method_38_code
def yX4_charactersOf : MethodName := ⟨RX4, "charactersOf", "(J)I"⟩
abbrev cX4_put : ByteArray := prog_6_method_39_code
def yX4_put : MethodName := ⟨RX4, "put", "(J)I"⟩
abbrev cX4_wipe : ByteArray := prog_6_method_40_code
def yX4_wipe : MethodName := ⟨RX4, "wipe", "()I"⟩
abbrev cX4_isHere : ByteArray := prog_6_method_41_code
def yX4_isHere : MethodName := ⟨RX4, "isHere", "(II)Z"⟩
abbrev cX4_takesOne : ByteArray := prog_6_method_42_code
def yX4_takesOne : MethodName := ⟨RX4, "takesOne", "(I)Z"⟩
abbrev cX4_beam : ByteArray := prog_6_method_43_code
def yX4_beam : MethodName := ⟨RX4, "beam", "()I"⟩
abbrev cX4_readsTicks : ByteArray := prog_6_method_44_code
def yX4_readsTicks : MethodName := ⟨RX4, "readsTicks", "()Z"⟩
abbrev cX4_readsEvent : ByteArray := prog_6_method_45_code
def yX4_readsEvent : MethodName := ⟨RX4, "readsEvent", "()Z"⟩
abbrev cX4_fault : ByteArray := prog_6_method_46_code
def yX4_fault : MethodName := ⟨RX4, "fault", "()I"⟩
abbrev cX4_reads : ByteArray := prog_6_method_47_code
def yX4_reads : MethodName := ⟨RX4, "reads", "()I"⟩
abbrev cX4_read : ByteArray := prog_6_method_48_code
def yX4_read : MethodName := ⟨RX4, "read", "()I"⟩
abbrev cX4_undo : ByteArray := prog_6_method_49_code
def yX4_undo : MethodName := ⟨RX4, "undo", "()I"⟩
abbrev cX4_isSlot : ByteArray := prog_6_method_50_code
def yX4_isSlot : MethodName := ⟨RX4, "isSlot", "(I)Z"⟩
abbrev cX4_save : ByteArray := prog_6_method_51_code
def yX4_save : MethodName := ⟨RX4, "save", "(I)I"⟩
abbrev cX4_restore : ByteArray := prog_6_method_52_code
def yX4_restore : MethodName := ⟨RX4, "restore", "(I)I"⟩
def RJ6 : String := "java/lang/Integer"
def TJ6 : u_T := fun k => match k with
  | _ => ("", "", "", false)
def tyJ6 : Nat → FieldType := fun k => match k with
  | _ => .int
abbrev wsJ60 : List Cond := u_ws RJ6 TJ6 0
theorem nmJ6 : ∀ a, a < 0 → ∀ b, b < 0 → a ≠ b → (TJ6 a).2.1 ≠ (TJ6 b).2.1 := by decide +kernel
theorem tyJ6_ok : ∀ k, k < 0 → parseFieldDescriptor (TJ6 k).2.2.1 = some (tyJ6 k) := by decide +kernel
abbrev cJ6_bitCount_0f7a4 : ByteArray := prog_7_method_49_code
def yJ6_bitCount_0f7a4 : MethodName := ⟨RJ6, "bitCount", "(I)I"⟩
def RJ9 : String := "java/lang/Math"
def TJ9 : u_T := fun k => match k with
  | _ => ("", "", "", false)
def tyJ9 : Nat → FieldType := fun k => match k with
  | _ => .int
abbrev wsJ90 : List Cond := u_ws RJ9 TJ9 0
theorem nmJ9 : ∀ a, a < 0 → ∀ b, b < 0 → a ≠ b → (TJ9 a).2.1 ≠ (TJ9 b).2.1 := by decide +kernel
theorem tyJ9_ok : ∀ k, k < 0 → parseFieldDescriptor (TJ9 k).2.2.1 = some (tyJ9 k) := by decide +kernel
abbrev cJ9_abs_0f7a4 : ByteArray := prog_8_method_59_code
def yJ9_abs_0f7a4 : MethodName := ⟨RJ9, "abs", "(I)I"⟩
abbrev cJ9_min_7cf53 : ByteArray := prog_8_method_69_code
def yJ9_min_7cf53 : MethodName := ⟨RJ9, "min", "(II)I"⟩
def RJ10 : String := "java/lang/System"
def TJ10 : u_T := fun k => match k with
  | _ => ("", "", "", false)
def tyJ10 : Nat → FieldType := fun k => match k with
  | _ => .int
abbrev wsJ100 : List Cond := u_ws RJ10 TJ10 0
theorem nmJ10 : ∀ a, a < 0 → ∀ b, b < 0 → a ≠ b → (TJ10 a).2.1 ≠ (TJ10 b).2.1 := by decide +kernel
theorem tyJ10_ok : ∀ k, k < 0 → parseFieldDescriptor (TJ10 k).2.2.1 = some (tyJ10 k) := by decide +kernel
def RL : String := "BeamTurnstilesLaw"
abbrev cL_law : ByteArray := code
def yL_law : MethodName := ⟨RL, "law", "([I)Z"⟩
def wsX0_partOf : List Cond := .code yX0_partOf cX0_partOf 1 (some .int) :: ([])
def wsX0_init : List Cond := .code yX0_init cX0_init 2 none :: ([.methodLink RX0 5 objectInit, .instanceMethod objectInit, .code objectInit ⟨#[0xb1]⟩ 1 none, .arrayClass .int, .fieldLink RX0 11 "BeamTurnstiles$Hall" "row" "[I", .methodLink RX0 15 yX0_partOf, .static yX0_partOf, .initialized RX0, .code yX0_partOf cX0_partOf 1 (some .int)] ++ wsX00)
def wsX0_begin : List Cond := .code yX0_begin cX0_begin 2 none :: ([.fieldLink RX0 11 "BeamTurnstiles$Hall" "row" "[I"] ++ wsX00)
def wsX0_comeThrough : List Cond := .code yX0_comeThrough cX0_comeThrough 4 none :: ([.fieldLink RX0 11 "BeamTurnstiles$Hall" "row" "[I"] ++ wsX00)
def wsX0_becomeInside : List Cond := .code yX0_becomeInside cX0_becomeInside 2 none :: ([.fieldLink RX0 11 "BeamTurnstiles$Hall" "row" "[I"] ++ wsX00)
def wsX0_oneMoreInside : List Cond := .code yX0_oneMoreInside cX0_oneMoreInside 1 none :: ([.fieldLink RX0 11 "BeamTurnstiles$Hall" "row" "[I", .methodLink RX0 39 yX0_becomeInside, .instanceMethod yX0_becomeInside, .selects RX0 yX0_becomeInside yX0_becomeInside, .initialized RX0, .code yX0_becomeInside cX0_becomeInside 2 none] ++ wsX00)
def wsX0_oneLessInside : List Cond := .code yX0_oneLessInside cX0_oneLessInside 1 none :: ([.fieldLink RX0 11 "BeamTurnstiles$Hall" "row" "[I"] ++ wsX00)
def wsX0_end : List Cond := .code yX0_end cX0_end 2 none :: ([.fieldLink RX0 11 "BeamTurnstiles$Hall" "row" "[I", .methodLink RX0 29 yX0_comeThrough, .instanceMethod yX0_comeThrough, .selects RX0 yX0_comeThrough yX0_comeThrough, .initialized RX0, .code yX0_comeThrough cX0_comeThrough 4 none, .methodLink RX0 33 yX0_oneMoreInside, .instanceMethod yX0_oneMoreInside, .selects RX0 yX0_oneMoreInside yX0_oneMoreInside, .code yX0_oneMoreInside cX0_oneMoreInside 1 none, .methodLink RX0 39 yX0_becomeInside, .instanceMethod yX0_becomeInside, .selects RX0 yX0_becomeInside yX0_becomeInside, .code yX0_becomeInside cX0_becomeInside 2 none, .methodLink RX0 36 yX0_oneLessInside, .instanceMethod yX0_oneLessInside, .selects RX0 yX0_oneLessInside yX0_oneLessInside, .code yX0_oneLessInside cX0_oneLessInside 1 none] ++ wsX00)
def wsX0_change_r1 : List Cond := [Cond.fieldLink RX0 11 "BeamTurnstiles$Hall" "row" "[I", Cond.fieldLink RX0 19 "BeamTurnstiles$Hall" "TURNED_BITS" "[I", Cond.methodLink RX0 15 yX0_partOf, Cond.static yX0_partOf, Cond.initialized RX0, Cond.code yX0_partOf cX0_partOf 1 (some .int), Cond.methodLink RX0 22 yX0_begin, Cond.instanceMethod yX0_begin, Cond.selects RX0 yX0_begin yX0_begin, Cond.code yX0_begin cX0_begin 2 none, Cond.methodLink RX0 26 yX0_end, Cond.instanceMethod yX0_end, Cond.selects RX0 yX0_end yX0_end, Cond.code yX0_end cX0_end 2 none, Cond.methodLink RX0 29 yX0_comeThrough, Cond.instanceMethod yX0_comeThrough, Cond.selects RX0 yX0_comeThrough yX0_comeThrough, Cond.code yX0_comeThrough cX0_comeThrough 4 none, Cond.methodLink RX0 33 yX0_oneMoreInside, Cond.instanceMethod yX0_oneMoreInside, Cond.selects RX0 yX0_oneMoreInside yX0_oneMoreInside, Cond.code yX0_oneMoreInside cX0_oneMoreInside 1 none, Cond.methodLink RX0 39 yX0_becomeInside, Cond.instanceMethod yX0_becomeInside]
def wsX0_change_r2 : List Cond := [Cond.selects RX0 yX0_becomeInside yX0_becomeInside, Cond.code yX0_becomeInside cX0_becomeInside 2 none, Cond.methodLink RX0 36 yX0_oneLessInside, Cond.instanceMethod yX0_oneLessInside, Cond.selects RX0 yX0_oneLessInside yX0_oneLessInside, Cond.code yX0_oneLessInside cX0_oneLessInside 1 none]
def wsX0_change : List Cond := .code yX0_change cX0_change 6 (some .int) :: ((wsX0_change_r1 ++ wsX0_change_r2) ++ wsX00)
def wsX0_free_r1 : List Cond := [Cond.fieldLink RX0 11 "BeamTurnstiles$Hall" "row" "[I", Cond.methodLink RX0 15 yX0_partOf, Cond.static yX0_partOf, Cond.initialized RX0, Cond.code yX0_partOf cX0_partOf 1 (some .int), Cond.methodLink RX0 26 yX0_end, Cond.instanceMethod yX0_end, Cond.selects RX0 yX0_end yX0_end, Cond.code yX0_end cX0_end 2 none, Cond.methodLink RX0 29 yX0_comeThrough, Cond.instanceMethod yX0_comeThrough, Cond.selects RX0 yX0_comeThrough yX0_comeThrough, Cond.code yX0_comeThrough cX0_comeThrough 4 none, Cond.methodLink RX0 33 yX0_oneMoreInside, Cond.instanceMethod yX0_oneMoreInside, Cond.selects RX0 yX0_oneMoreInside yX0_oneMoreInside, Cond.code yX0_oneMoreInside cX0_oneMoreInside 1 none, Cond.methodLink RX0 39 yX0_becomeInside, Cond.instanceMethod yX0_becomeInside, Cond.selects RX0 yX0_becomeInside yX0_becomeInside, Cond.code yX0_becomeInside cX0_becomeInside 2 none, Cond.methodLink RX0 36 yX0_oneLessInside, Cond.instanceMethod yX0_oneLessInside, Cond.selects RX0 yX0_oneLessInside yX0_oneLessInside]
def wsX0_free_r2 : List Cond := [Cond.code yX0_oneLessInside cX0_oneLessInside 1 none]
def wsX0_free : List Cond := .code yX0_free cX0_free 4 (some .int) :: ((wsX0_free_r1 ++ wsX0_free_r2) ++ wsX00)
def wsX0_hasRoomFor : List Cond := .code yX0_hasRoomFor cX0_hasRoomFor 2 (some .boolean) :: ([.fieldLink RX0 11 "BeamTurnstiles$Hall" "row" "[I", .constant RX0 42 (99999)] ++ wsX00)
def wsX0_goBy : List Cond := .code yX0_goBy cX0_goBy 2 none :: ([.fieldLink RX0 11 "BeamTurnstiles$Hall" "row" "[I"] ++ wsX00)
def wsX0_isUnderWay : List Cond := .code yX0_isUnderWay cX0_isUnderWay 2 (some .boolean) :: ([.fieldLink RX0 11 "BeamTurnstiles$Hall" "row" "[I", .methodLink RX0 15 yX0_partOf, .static yX0_partOf, .initialized RX0, .code yX0_partOf cX0_partOf 1 (some .int)] ++ wsX00)
def wsX0_isSure : List Cond := .code yX0_isSure cX0_isSure 2 (some .boolean) :: ([.fieldLink RX0 11 "BeamTurnstiles$Hall" "row" "[I", .methodLink RX0 15 yX0_partOf, .static yX0_partOf, .initialized RX0, .code yX0_partOf cX0_partOf 1 (some .int)] ++ wsX00)
def wsX0_placeOf : List Cond := .code yX0_placeOf cX0_placeOf 2 (some .int) :: ([.fieldLink RX0 11 "BeamTurnstiles$Hall" "row" "[I", .methodLink RX0 15 yX0_partOf, .static yX0_partOf, .initialized RX0, .code yX0_partOf cX0_partOf 1 (some .int)] ++ wsX00)
def wsX0_ticksUnderWay : List Cond := .code yX0_ticksUnderWay cX0_ticksUnderWay 2 (some .int) :: ([.fieldLink RX0 11 "BeamTurnstiles$Hall" "row" "[I", .methodLink RX0 15 yX0_partOf, .static yX0_partOf, .initialized RX0, .code yX0_partOf cX0_partOf 1 (some .int)] ++ wsX00)
def wsX0_isBlocked : List Cond := .code yX0_isBlocked cX0_isBlocked 2 (some .boolean) :: ([.fieldLink RX0 11 "BeamTurnstiles$Hall" "row" "[I", .methodLink RX0 43 yX0_isUnderWay, .instanceMethod yX0_isUnderWay, .selects RX0 yX0_isUnderWay yX0_isUnderWay, .initialized RX0, .code yX0_isUnderWay cX0_isUnderWay 2 (some .boolean), .methodLink RX0 15 yX0_partOf, .static yX0_partOf, .code yX0_partOf cX0_partOf 1 (some .int), .methodLink RX0 47 yX0_ticksUnderWay, .instanceMethod yX0_ticksUnderWay, .selects RX0 yX0_ticksUnderWay yX0_ticksUnderWay, .code yX0_ticksUnderWay cX0_ticksUnderWay 2 (some .int)] ++ wsX00)
def wsX0_blockedMask : List Cond := .code yX0_blockedMask cX0_blockedMask 3 (some .int) :: ([.methodLink RX0 50 yX0_isBlocked, .instanceMethod yX0_isBlocked, .selects RX0 yX0_isBlocked yX0_isBlocked, .initialized RX0, .code yX0_isBlocked cX0_isBlocked 2 (some .boolean), .fieldLink RX0 11 "BeamTurnstiles$Hall" "row" "[I", .methodLink RX0 43 yX0_isUnderWay, .instanceMethod yX0_isUnderWay, .selects RX0 yX0_isUnderWay yX0_isUnderWay, .code yX0_isUnderWay cX0_isUnderWay 2 (some .boolean), .methodLink RX0 15 yX0_partOf, .static yX0_partOf, .code yX0_partOf cX0_partOf 1 (some .int), .methodLink RX0 47 yX0_ticksUnderWay, .instanceMethod yX0_ticksUnderWay, .selects RX0 yX0_ticksUnderWay yX0_ticksUnderWay, .code yX0_ticksUnderWay cX0_ticksUnderWay 2 (some .int)] ++ wsX00)
def wsX0_underWayMask : List Cond := .code yX0_underWayMask cX0_underWayMask 3 (some .int) :: ([.methodLink RX0 43 yX0_isUnderWay, .instanceMethod yX0_isUnderWay, .selects RX0 yX0_isUnderWay yX0_isUnderWay, .initialized RX0, .code yX0_isUnderWay cX0_isUnderWay 2 (some .boolean), .fieldLink RX0 11 "BeamTurnstiles$Hall" "row" "[I", .methodLink RX0 15 yX0_partOf, .static yX0_partOf, .code yX0_partOf cX0_partOf 1 (some .int)] ++ wsX00)
def wsX0_sumOfGates : List Cond := .code yX0_sumOfGates cX0_sumOfGates 4 (some .int) :: ([.fieldLink RX0 11 "BeamTurnstiles$Hall" "row" "[I", .methodLink RX0 15 yX0_partOf, .static yX0_partOf, .initialized RX0, .code yX0_partOf cX0_partOf 1 (some .int)] ++ wsX00)
def wsX0_passagesThrough : List Cond := .code yX0_passagesThrough cX0_passagesThrough 3 (some .int) :: ([.fieldLink RX0 11 "BeamTurnstiles$Hall" "row" "[I", .methodLink RX0 15 yX0_partOf, .static yX0_partOf, .initialized RX0, .code yX0_partOf cX0_partOf 1 (some .int)] ++ wsX00)
def wsX0_tell_r1 : List Cond := [Cond.fieldLink RX0 11 "BeamTurnstiles$Hall" "row" "[I", Cond.methodLink RX0 43 yX0_isUnderWay, Cond.instanceMethod yX0_isUnderWay, Cond.selects RX0 yX0_isUnderWay yX0_isUnderWay, Cond.initialized RX0, Cond.code yX0_isUnderWay cX0_isUnderWay 2 (some .boolean), Cond.methodLink RX0 15 yX0_partOf, Cond.static yX0_partOf, Cond.code yX0_partOf cX0_partOf 1 (some .int), Cond.methodLink RX0 53 yX0_isSure, Cond.instanceMethod yX0_isSure, Cond.selects RX0 yX0_isSure yX0_isSure, Cond.code yX0_isSure cX0_isSure 2 (some .boolean), Cond.methodLink RX0 56 yX0_placeOf, Cond.instanceMethod yX0_placeOf, Cond.selects RX0 yX0_placeOf yX0_placeOf, Cond.code yX0_placeOf cX0_placeOf 2 (some .int), Cond.methodLink RX0 50 yX0_isBlocked, Cond.instanceMethod yX0_isBlocked, Cond.selects RX0 yX0_isBlocked yX0_isBlocked, Cond.code yX0_isBlocked cX0_isBlocked 2 (some .boolean), Cond.methodLink RX0 47 yX0_ticksUnderWay, Cond.instanceMethod yX0_ticksUnderWay, Cond.selects RX0 yX0_ticksUnderWay yX0_ticksUnderWay]
def wsX0_tell_r2 : List Cond := [Cond.code yX0_ticksUnderWay cX0_ticksUnderWay 2 (some .int)]
def wsX0_tell : List Cond := .code yX0_tell cX0_tell 3 (some .int) :: ((wsX0_tell_r1 ++ wsX0_tell_r2) ++ wsX00)
def wsX1_init : List Cond := .code yX1_init cX1_init 1 none :: ([.methodLink RX1 1 objectInit, .instanceMethod objectInit, .code objectInit ⟨#[0xb1]⟩ 1 none, .classLink RX1 11 "[[I", .arrayClass .int, .fieldLink RX1 13 "BeamTurnstiles$History" "rows" "[[I", .fieldLink RX1 16 "BeamTurnstiles$History" "next" "I", .fieldLink RX1 20 "BeamTurnstiles$History" "size" "I"] ++ wsX10)
def wsX3_copyRow : List Cond := .code yX3_copyRow cX3_copyRow 2 none :: ([.methodLink RX3 155 arraycopyName, .native arraycopyName, .static arraycopyName, .initialized "java/lang/System"])
def wsX1_keep : List Cond := .code yX1_keep cX1_keep 2 none :: ([.fieldLink RX1 13 "BeamTurnstiles$History" "rows" "[[I", .fieldLink RX1 16 "BeamTurnstiles$History" "next" "I", .fieldLink RX1 20 "BeamTurnstiles$History" "size" "I", .methodLink RX1 29 Lib.Math.min.name, .static Lib.Math.min.name, .initialized "java/lang/Math", .code Lib.Math.min.name Lib.Math.min.code 2 (some .int), .static yX3_copyRow, .initialized RX3, .code yX3_copyRow cX3_copyRow 2 none, .methodLink RX3 155 arraycopyName, .native arraycopyName, .static arraycopyName, .initialized "java/lang/System"] ++ wsX10)
def wsX1_takeBack : List Cond := .code yX1_takeBack cX1_takeBack 2 none :: ([.fieldLink RX1 16 "BeamTurnstiles$History" "next" "I", .fieldLink RX1 13 "BeamTurnstiles$History" "rows" "[[I", .fieldLink RX1 20 "BeamTurnstiles$History" "size" "I", .static yX3_copyRow, .initialized RX3, .code yX3_copyRow cX3_copyRow 2 none, .methodLink RX3 155 arraycopyName, .native arraycopyName, .static arraycopyName, .initialized "java/lang/System"] ++ wsX10)
def wsX2_init : List Cond := .code yX2_init cX2_init 1 none :: ([.methodLink RX2 3 objectInit, .instanceMethod objectInit, .code objectInit ⟨#[0xb1]⟩ 1 none, .arrayClass .char, .fieldLink RX2 11 "BeamTurnstiles$Pad" "text" "[C", .fieldLink RX2 15 "BeamTurnstiles$Pad" "length" "I"] ++ wsX20)
def wsX2_numberOf : List Cond := .code yX2_numberOf cX2_numberOf 6 (some .int) :: ([.constantLong RX2 19 (255)])
def wsX2_hasRoomFor : List Cond := .code yX2_hasRoomFor cX2_hasRoomFor 2 (some .boolean) :: ([.fieldLink RX2 15 "BeamTurnstiles$Pad" "length" "I"] ++ wsX20)
def wsX2_append : List Cond := .code yX2_append cX2_append 5 none :: ([.fieldLink RX2 15 "BeamTurnstiles$Pad" "length" "I", .fieldLink RX2 11 "BeamTurnstiles$Pad" "text" "[C", .constantLong RX2 19 (255)] ++ wsX20)
def wsX2_empty : List Cond := .code yX2_empty cX2_empty 1 none :: ([.fieldLink RX2 15 "BeamTurnstiles$Pad" "length" "I"] ++ wsX20)
def wsX2_isGateDigit : List Cond := .code yX2_isGateDigit cX2_isGateDigit 1 (some .boolean) :: ([])
def wsX2_beamOf : List Cond := .code yX2_beamOf cX2_beamOf 1 (some .int) :: ([])
def wsX2_afterEvent : List Cond := .code yX2_afterEvent cX2_afterEvent 1 (some .int) :: ([])
def wsX2_isDigit : List Cond := .code yX2_isDigit cX2_isDigit 1 (some .boolean) :: ([])
def wsX2_stateAfter : List Cond := .code yX2_stateAfter cX2_stateAfter 2 (some .int) :: ([.methodLink RX2 25 yX2_isGateDigit, .static yX2_isGateDigit, .initialized RX2, .code yX2_isGateDigit cX2_isGateDigit 1 (some .boolean), .methodLink RX2 29 yX2_beamOf, .static yX2_beamOf, .code yX2_beamOf cX2_beamOf 1 (some .int), .methodLink RX2 33 yX2_afterEvent, .static yX2_afterEvent, .code yX2_afterEvent cX2_afterEvent 1 (some .int), .methodLink RX2 36 yX2_isDigit, .static yX2_isDigit, .code yX2_isDigit cX2_isDigit 1 (some .boolean)])
def wsX2_firstFault : List Cond := .code yX2_firstFault cX2_firstFault 3 (some .int) :: ([.fieldLink RX2 15 "BeamTurnstiles$Pad" "length" "I", .fieldLink RX2 11 "BeamTurnstiles$Pad" "text" "[C", .methodLink RX2 21 yX2_stateAfter, .static yX2_stateAfter, .initialized RX2, .code yX2_stateAfter cX2_stateAfter 2 (some .int), .methodLink RX2 25 yX2_isGateDigit, .static yX2_isGateDigit, .code yX2_isGateDigit cX2_isGateDigit 1 (some .boolean), .methodLink RX2 29 yX2_beamOf, .static yX2_beamOf, .code yX2_beamOf cX2_beamOf 1 (some .int), .methodLink RX2 33 yX2_afterEvent, .static yX2_afterEvent, .code yX2_afterEvent cX2_afterEvent 1 (some .int), .methodLink RX2 36 yX2_isDigit, .static yX2_isDigit, .code yX2_isDigit cX2_isDigit 1 (some .boolean)] ++ wsX20)
def wsX2_numberIn : List Cond := .code yX2_numberIn cX2_numberIn 5 (some .int) :: ([.fieldLink RX2 11 "BeamTurnstiles$Pad" "text" "[C"] ++ wsX20)
def wsX2_letGoBy : List Cond := .code yX2_letGoBy cX2_letGoBy 2 none :: ([.methodLink RX2 60 yX0_hasRoomFor, .instanceMethod yX0_hasRoomFor, .selects RX0 yX0_hasRoomFor yX0_hasRoomFor, .initialized RX0, .code yX0_hasRoomFor cX0_hasRoomFor 2 (some .boolean), .fieldLink RX0 11 "BeamTurnstiles$Hall" "row" "[I", .constant RX0 42 (99999), .methodLink RX2 63 yX0_goBy, .instanceMethod yX0_goBy, .selects RX0 yX0_goBy yX0_goBy, .code yX0_goBy cX0_goBy 2 none] ++ wsX00)
def wsX3_isNoGate : List Cond := .code yX3_isNoGate cX3_isNoGate 1 (some .boolean) :: ([])
def wsX2_changeBeams_r1 : List Cond := [Cond.fieldLink RX2 11 "BeamTurnstiles$Pad" "text" "[C", Cond.static yX3_isNoGate, Cond.initialized RX3, Cond.code yX3_isNoGate cX3_isNoGate 1 (some .boolean), Cond.methodLink RX2 29 yX2_beamOf, Cond.static yX2_beamOf, Cond.initialized RX2, Cond.code yX2_beamOf cX2_beamOf 1 (some .int), Cond.methodLink RX2 55 yX0_change, Cond.instanceMethod yX0_change, Cond.selects RX0 yX0_change yX0_change, Cond.initialized RX0, Cond.code yX0_change cX0_change 6 (some .int), Cond.fieldLink RX0 11 "BeamTurnstiles$Hall" "row" "[I", Cond.fieldLink RX0 19 "BeamTurnstiles$Hall" "TURNED_BITS" "[I", Cond.methodLink RX0 15 yX0_partOf, Cond.static yX0_partOf, Cond.code yX0_partOf cX0_partOf 1 (some .int), Cond.methodLink RX0 22 yX0_begin, Cond.instanceMethod yX0_begin, Cond.selects RX0 yX0_begin yX0_begin, Cond.code yX0_begin cX0_begin 2 none, Cond.methodLink RX0 26 yX0_end, Cond.instanceMethod yX0_end]
def wsX2_changeBeams_r2 : List Cond := [Cond.selects RX0 yX0_end yX0_end, Cond.code yX0_end cX0_end 2 none, Cond.methodLink RX0 29 yX0_comeThrough, Cond.instanceMethod yX0_comeThrough, Cond.selects RX0 yX0_comeThrough yX0_comeThrough, Cond.code yX0_comeThrough cX0_comeThrough 4 none, Cond.methodLink RX0 33 yX0_oneMoreInside, Cond.instanceMethod yX0_oneMoreInside, Cond.selects RX0 yX0_oneMoreInside yX0_oneMoreInside, Cond.code yX0_oneMoreInside cX0_oneMoreInside 1 none, Cond.methodLink RX0 39 yX0_becomeInside, Cond.instanceMethod yX0_becomeInside, Cond.selects RX0 yX0_becomeInside yX0_becomeInside, Cond.code yX0_becomeInside cX0_becomeInside 2 none, Cond.methodLink RX0 36 yX0_oneLessInside, Cond.instanceMethod yX0_oneLessInside, Cond.selects RX0 yX0_oneLessInside yX0_oneLessInside, Cond.code yX0_oneLessInside cX0_oneLessInside 1 none]
def wsX2_changeBeams : List Cond := .code yX2_changeBeams cX2_changeBeams 8 (some .int) :: ((wsX2_changeBeams_r1 ++ wsX2_changeBeams_r2) ++ wsX20 ++ wsX00)
def wsX2_happenIn_r1 : List Cond := [Cond.fieldLink RX2 15 "BeamTurnstiles$Pad" "length" "I", Cond.fieldLink RX2 11 "BeamTurnstiles$Pad" "text" "[C", Cond.methodLink RX2 39 yX2_numberIn, Cond.instanceMethod yX2_numberIn, Cond.selects RX2 yX2_numberIn yX2_numberIn, Cond.initialized RX2, Cond.code yX2_numberIn cX2_numberIn 5 (some .int), Cond.methodLink RX2 43 yX2_letGoBy, Cond.static yX2_letGoBy, Cond.code yX2_letGoBy cX2_letGoBy 2 none, Cond.methodLink RX2 60 yX0_hasRoomFor, Cond.instanceMethod yX0_hasRoomFor, Cond.selects RX0 yX0_hasRoomFor yX0_hasRoomFor, Cond.initialized RX0, Cond.code yX0_hasRoomFor cX0_hasRoomFor 2 (some .boolean), Cond.fieldLink RX0 11 "BeamTurnstiles$Hall" "row" "[I", Cond.constant RX0 42 (99999), Cond.methodLink RX2 63 yX0_goBy, Cond.instanceMethod yX0_goBy, Cond.selects RX0 yX0_goBy yX0_goBy, Cond.code yX0_goBy cX0_goBy 2 none, Cond.methodLink RX2 47 yX2_changeBeams, Cond.instanceMethod yX2_changeBeams, Cond.selects RX2 yX2_changeBeams yX2_changeBeams]
def wsX2_happenIn_r2 : List Cond := [Cond.code yX2_changeBeams cX2_changeBeams 8 (some .int), Cond.static yX3_isNoGate, Cond.initialized RX3, Cond.code yX3_isNoGate cX3_isNoGate 1 (some .boolean), Cond.methodLink RX2 29 yX2_beamOf, Cond.static yX2_beamOf, Cond.code yX2_beamOf cX2_beamOf 1 (some .int), Cond.methodLink RX2 55 yX0_change, Cond.instanceMethod yX0_change, Cond.selects RX0 yX0_change yX0_change, Cond.code yX0_change cX0_change 6 (some .int), Cond.fieldLink RX0 19 "BeamTurnstiles$Hall" "TURNED_BITS" "[I", Cond.methodLink RX0 15 yX0_partOf, Cond.static yX0_partOf, Cond.code yX0_partOf cX0_partOf 1 (some .int), Cond.methodLink RX0 22 yX0_begin, Cond.instanceMethod yX0_begin, Cond.selects RX0 yX0_begin yX0_begin, Cond.code yX0_begin cX0_begin 2 none, Cond.methodLink RX0 26 yX0_end, Cond.instanceMethod yX0_end, Cond.selects RX0 yX0_end yX0_end, Cond.code yX0_end cX0_end 2 none, Cond.methodLink RX0 29 yX0_comeThrough]
def wsX2_happenIn_r3 : List Cond := [Cond.instanceMethod yX0_comeThrough, Cond.selects RX0 yX0_comeThrough yX0_comeThrough, Cond.code yX0_comeThrough cX0_comeThrough 4 none, Cond.methodLink RX0 33 yX0_oneMoreInside, Cond.instanceMethod yX0_oneMoreInside, Cond.selects RX0 yX0_oneMoreInside yX0_oneMoreInside, Cond.code yX0_oneMoreInside cX0_oneMoreInside 1 none, Cond.methodLink RX0 39 yX0_becomeInside, Cond.instanceMethod yX0_becomeInside, Cond.selects RX0 yX0_becomeInside yX0_becomeInside, Cond.code yX0_becomeInside cX0_becomeInside 2 none, Cond.methodLink RX0 36 yX0_oneLessInside, Cond.instanceMethod yX0_oneLessInside, Cond.selects RX0 yX0_oneLessInside yX0_oneLessInside, Cond.code yX0_oneLessInside cX0_oneLessInside 1 none]
def wsX2_happenIn : List Cond := .code yX2_happenIn cX2_happenIn 6 (some .int) :: ((wsX2_happenIn_r1 ++ (wsX2_happenIn_r2 ++ wsX2_happenIn_r3)) ++ wsX20 ++ wsX00)
def wsX3_init_r1 : List Cond := [Cond.methodLink RX3 1 objectInit, Cond.instanceMethod objectInit, Cond.code objectInit ⟨#[0xb1]⟩ 1 none, Cond.classLink RX3 7 RX0, Cond.instantiable RX0 1, Cond.initialized RX0, Cond.fieldLink RX3 10 "BeamTurnstiles" "hall" "LBeamTurnstiles$Hall;", Cond.fieldLink RX3 16 "BeamTurnstiles" "trial" "LBeamTurnstiles$Hall;", Cond.classLink RX3 19 RX2, Cond.instantiable RX2 2, Cond.initialized RX2, Cond.fieldLink RX3 22 "BeamTurnstiles" "pad" "LBeamTurnstiles$Pad;", Cond.classLink RX3 26 RX1, Cond.instantiable RX1 3, Cond.initialized RX1, Cond.fieldLink RX3 29 "BeamTurnstiles" "history" "LBeamTurnstiles$History;", Cond.classLink RX3 33 "[[I", Cond.arrayClass .int, Cond.fieldLink RX3 35 "BeamTurnstiles" "slots" "[[I", Cond.arrayClass .boolean, Cond.fieldLink RX3 38 "BeamTurnstiles" "saved" "[Z", Cond.methodLink RX3 9 yX0_init, Cond.instanceMethod yX0_init, Cond.code yX0_init cX0_init 2 none]
def wsX3_init_r2 : List Cond := [Cond.methodLink RX0 5 objectInit, Cond.fieldLink RX0 11 "BeamTurnstiles$Hall" "row" "[I", Cond.methodLink RX0 15 yX0_partOf, Cond.static yX0_partOf, Cond.code yX0_partOf cX0_partOf 1 (some .int), Cond.instanceMethod yX2_init, Cond.code yX2_init cX2_init 1 none, Cond.methodLink RX2 3 objectInit, Cond.arrayClass .char, Cond.fieldLink RX2 11 "BeamTurnstiles$Pad" "text" "[C", Cond.fieldLink RX2 15 "BeamTurnstiles$Pad" "length" "I", Cond.instanceMethod yX1_init, Cond.code yX1_init cX1_init 1 none, Cond.methodLink RX1 1 objectInit, Cond.classLink RX1 11 "[[I", Cond.fieldLink RX1 13 "BeamTurnstiles$History" "rows" "[[I", Cond.fieldLink RX1 16 "BeamTurnstiles$History" "next" "I", Cond.fieldLink RX1 20 "BeamTurnstiles$History" "size" "I"]
def wsX3_init : List Cond := .code yX3_init cX3_init 1 none :: ((wsX3_init_r1 ++ wsX3_init_r2) ++ wsX00 ++ wsX30 ++ wsX20 ++ wsX10)
def wsX3_set : List Cond := .code yX3_set cX3_set 4 (some .int) :: ([.fieldLink RX3 42 "BeamTurnstiles" "LOWEST" "[I", .fieldLink RX3 46 "BeamTurnstiles" "HIGHEST" "[I", .fieldLink RX3 29 "BeamTurnstiles" "history" "LBeamTurnstiles$History;", .fieldLink RX3 10 "BeamTurnstiles" "hall" "LBeamTurnstiles$Hall;", .fieldLink RX3 49 "BeamTurnstiles$Hall" "row" "[I", .methodLink RX3 52 yX1_keep, .instanceMethod yX1_keep, .selects RX1 yX1_keep yX1_keep, .initialized RX1, .code yX1_keep cX1_keep 2 none, .fieldLink RX1 13 "BeamTurnstiles$History" "rows" "[[I", .fieldLink RX1 16 "BeamTurnstiles$History" "next" "I", .fieldLink RX1 20 "BeamTurnstiles$History" "size" "I", .methodLink RX1 29 Lib.Math.min.name, .static Lib.Math.min.name, .initialized "java/lang/Math", .code Lib.Math.min.name Lib.Math.min.code 2 (some .int), .static yX3_copyRow, .initialized RX3, .code yX3_copyRow cX3_copyRow 2 none, .methodLink RX3 155 arraycopyName, .native arraycopyName, .static arraycopyName, .initialized "java/lang/System"] ++ wsX30 ++ wsX00 ++ wsX10)
def wsX3_event_r1 : List Cond := [Cond.fieldLink RX3 29 "BeamTurnstiles" "history" "LBeamTurnstiles$History;", Cond.fieldLink RX3 10 "BeamTurnstiles" "hall" "LBeamTurnstiles$Hall;", Cond.fieldLink RX3 49 "BeamTurnstiles$Hall" "row" "[I", Cond.methodLink RX3 56 yX3_isNoGate, Cond.static yX3_isNoGate, Cond.initialized RX3, Cond.code yX3_isNoGate cX3_isNoGate 1 (some .boolean), Cond.methodLink RX3 52 yX1_keep, Cond.instanceMethod yX1_keep, Cond.selects RX1 yX1_keep yX1_keep, Cond.initialized RX1, Cond.code yX1_keep cX1_keep 2 none, Cond.fieldLink RX1 13 "BeamTurnstiles$History" "rows" "[[I", Cond.fieldLink RX1 16 "BeamTurnstiles$History" "next" "I", Cond.fieldLink RX1 20 "BeamTurnstiles$History" "size" "I", Cond.methodLink RX1 29 Lib.Math.min.name, Cond.static Lib.Math.min.name, Cond.initialized "java/lang/Math", Cond.code Lib.Math.min.name Lib.Math.min.code 2 (some .int), Cond.static yX3_copyRow, Cond.code yX3_copyRow cX3_copyRow 2 none, Cond.methodLink RX3 155 arraycopyName, Cond.native arraycopyName, Cond.static arraycopyName]
def wsX3_event_r2 : List Cond := [Cond.initialized "java/lang/System", Cond.methodLink RX3 60 yX0_change, Cond.instanceMethod yX0_change, Cond.selects RX0 yX0_change yX0_change, Cond.initialized RX0, Cond.code yX0_change cX0_change 6 (some .int), Cond.fieldLink RX0 11 "BeamTurnstiles$Hall" "row" "[I", Cond.fieldLink RX0 19 "BeamTurnstiles$Hall" "TURNED_BITS" "[I", Cond.methodLink RX0 15 yX0_partOf, Cond.static yX0_partOf, Cond.code yX0_partOf cX0_partOf 1 (some .int), Cond.methodLink RX0 22 yX0_begin, Cond.instanceMethod yX0_begin, Cond.selects RX0 yX0_begin yX0_begin, Cond.code yX0_begin cX0_begin 2 none, Cond.methodLink RX0 26 yX0_end, Cond.instanceMethod yX0_end, Cond.selects RX0 yX0_end yX0_end, Cond.code yX0_end cX0_end 2 none, Cond.methodLink RX0 29 yX0_comeThrough, Cond.instanceMethod yX0_comeThrough, Cond.selects RX0 yX0_comeThrough yX0_comeThrough, Cond.code yX0_comeThrough cX0_comeThrough 4 none, Cond.methodLink RX0 33 yX0_oneMoreInside]
def wsX3_event_r3 : List Cond := [Cond.instanceMethod yX0_oneMoreInside, Cond.selects RX0 yX0_oneMoreInside yX0_oneMoreInside, Cond.code yX0_oneMoreInside cX0_oneMoreInside 1 none, Cond.methodLink RX0 39 yX0_becomeInside, Cond.instanceMethod yX0_becomeInside, Cond.selects RX0 yX0_becomeInside yX0_becomeInside, Cond.code yX0_becomeInside cX0_becomeInside 2 none, Cond.methodLink RX0 36 yX0_oneLessInside, Cond.instanceMethod yX0_oneLessInside, Cond.selects RX0 yX0_oneLessInside yX0_oneLessInside, Cond.code yX0_oneLessInside cX0_oneLessInside 1 none]
def wsX3_event : List Cond := .code yX3_event cX3_event 3 (some .int) :: ((wsX3_event_r1 ++ (wsX3_event_r2 ++ wsX3_event_r3)) ++ wsX30 ++ wsX00 ++ wsX10)
def wsJ6_bitCount_0f7a4 : List Cond := .code yJ6_bitCount_0f7a4 cJ6_bitCount_0f7a4 1 (some .int) :: ([.constant RJ6 265 (1431655765), .constant RJ6 266 (858993459), .constant RJ6 267 (252645135)])
def wsX3_pass_r1 : List Cond := [Cond.fieldLink RX3 10 "BeamTurnstiles" "hall" "LBeamTurnstiles$Hall;", Cond.fieldLink RX3 29 "BeamTurnstiles" "history" "LBeamTurnstiles$History;", Cond.fieldLink RX3 49 "BeamTurnstiles$Hall" "row" "[I", Cond.methodLink RX3 64 yX0_hasRoomFor, Cond.instanceMethod yX0_hasRoomFor, Cond.selects RX0 yX0_hasRoomFor yX0_hasRoomFor, Cond.initialized RX0, Cond.code yX0_hasRoomFor cX0_hasRoomFor 2 (some .boolean), Cond.fieldLink RX0 11 "BeamTurnstiles$Hall" "row" "[I", Cond.constant RX0 42 (99999), Cond.methodLink RX3 52 yX1_keep, Cond.instanceMethod yX1_keep, Cond.selects RX1 yX1_keep yX1_keep, Cond.initialized RX1, Cond.code yX1_keep cX1_keep 2 none, Cond.fieldLink RX1 13 "BeamTurnstiles$History" "rows" "[[I", Cond.fieldLink RX1 16 "BeamTurnstiles$History" "next" "I", Cond.fieldLink RX1 20 "BeamTurnstiles$History" "size" "I", Cond.methodLink RX1 29 Lib.Math.min.name, Cond.static Lib.Math.min.name, Cond.initialized "java/lang/Math", Cond.code Lib.Math.min.name Lib.Math.min.code 2 (some .int), Cond.static yX3_copyRow, Cond.initialized RX3]
def wsX3_pass_r2 : List Cond := [Cond.code yX3_copyRow cX3_copyRow 2 none, Cond.methodLink RX3 155 arraycopyName, Cond.native arraycopyName, Cond.static arraycopyName, Cond.initialized "java/lang/System", Cond.methodLink RX3 67 yX0_goBy, Cond.instanceMethod yX0_goBy, Cond.selects RX0 yX0_goBy yX0_goBy, Cond.code yX0_goBy cX0_goBy 2 none, Cond.methodLink RX3 71 yX0_blockedMask, Cond.instanceMethod yX0_blockedMask, Cond.selects RX0 yX0_blockedMask yX0_blockedMask, Cond.code yX0_blockedMask cX0_blockedMask 3 (some .int), Cond.methodLink RX0 50 yX0_isBlocked, Cond.instanceMethod yX0_isBlocked, Cond.selects RX0 yX0_isBlocked yX0_isBlocked, Cond.code yX0_isBlocked cX0_isBlocked 2 (some .boolean), Cond.methodLink RX0 43 yX0_isUnderWay, Cond.instanceMethod yX0_isUnderWay, Cond.selects RX0 yX0_isUnderWay yX0_isUnderWay, Cond.code yX0_isUnderWay cX0_isUnderWay 2 (some .boolean), Cond.methodLink RX0 15 yX0_partOf, Cond.static yX0_partOf, Cond.code yX0_partOf cX0_partOf 1 (some .int)]
def wsX3_pass_r3 : List Cond := [Cond.methodLink RX0 47 yX0_ticksUnderWay, Cond.instanceMethod yX0_ticksUnderWay, Cond.selects RX0 yX0_ticksUnderWay yX0_ticksUnderWay, Cond.code yX0_ticksUnderWay cX0_ticksUnderWay 2 (some .int), Cond.methodLink RX3 75 yJ6_bitCount_0f7a4, Cond.static yJ6_bitCount_0f7a4, Cond.initialized RJ6, Cond.code yJ6_bitCount_0f7a4 cJ6_bitCount_0f7a4 1 (some .int), Cond.constant RJ6 265 (1431655765), Cond.constant RJ6 266 (858993459), Cond.constant RJ6 267 (252645135)]
def wsX3_pass : List Cond := .code yX3_pass cX3_pass 2 (some .int) :: ((wsX3_pass_r1 ++ (wsX3_pass_r2 ++ wsX3_pass_r3)) ++ wsX30 ++ wsX00 ++ wsX10)
def wsX3_read_r1 : List Cond := [Cond.fieldLink RX3 22 "BeamTurnstiles" "pad" "LBeamTurnstiles$Pad;", Cond.fieldLink RX3 29 "BeamTurnstiles" "history" "LBeamTurnstiles$History;", Cond.fieldLink RX3 10 "BeamTurnstiles" "hall" "LBeamTurnstiles$Hall;", Cond.fieldLink RX3 49 "BeamTurnstiles$Hall" "row" "[I", Cond.methodLink RX3 81 yX2_firstFault, Cond.instanceMethod yX2_firstFault, Cond.selects RX2 yX2_firstFault yX2_firstFault, Cond.initialized RX2, Cond.code yX2_firstFault cX2_firstFault 3 (some .int), Cond.fieldLink RX2 15 "BeamTurnstiles$Pad" "length" "I", Cond.fieldLink RX2 11 "BeamTurnstiles$Pad" "text" "[C", Cond.methodLink RX2 21 yX2_stateAfter, Cond.static yX2_stateAfter, Cond.code yX2_stateAfter cX2_stateAfter 2 (some .int), Cond.methodLink RX2 25 yX2_isGateDigit, Cond.static yX2_isGateDigit, Cond.code yX2_isGateDigit cX2_isGateDigit 1 (some .boolean), Cond.methodLink RX2 29 yX2_beamOf, Cond.static yX2_beamOf, Cond.code yX2_beamOf cX2_beamOf 1 (some .int), Cond.methodLink RX2 33 yX2_afterEvent, Cond.static yX2_afterEvent, Cond.code yX2_afterEvent cX2_afterEvent 1 (some .int), Cond.methodLink RX2 36 yX2_isDigit]
def wsX3_read_r2 : List Cond := [Cond.static yX2_isDigit, Cond.code yX2_isDigit cX2_isDigit 1 (some .boolean), Cond.methodLink RX3 52 yX1_keep, Cond.instanceMethod yX1_keep, Cond.selects RX1 yX1_keep yX1_keep, Cond.initialized RX1, Cond.code yX1_keep cX1_keep 2 none, Cond.fieldLink RX1 13 "BeamTurnstiles$History" "rows" "[[I", Cond.fieldLink RX1 16 "BeamTurnstiles$History" "next" "I", Cond.fieldLink RX1 20 "BeamTurnstiles$History" "size" "I", Cond.methodLink RX1 29 Lib.Math.min.name, Cond.static Lib.Math.min.name, Cond.initialized "java/lang/Math", Cond.code Lib.Math.min.name Lib.Math.min.code 2 (some .int), Cond.static yX3_copyRow, Cond.initialized RX3, Cond.code yX3_copyRow cX3_copyRow 2 none, Cond.methodLink RX3 155 arraycopyName, Cond.native arraycopyName, Cond.static arraycopyName, Cond.initialized "java/lang/System", Cond.methodLink RX3 84 yX2_happenIn, Cond.instanceMethod yX2_happenIn, Cond.selects RX2 yX2_happenIn yX2_happenIn]
def wsX3_read_r3 : List Cond := [Cond.code yX2_happenIn cX2_happenIn 6 (some .int), Cond.methodLink RX2 39 yX2_numberIn, Cond.instanceMethod yX2_numberIn, Cond.selects RX2 yX2_numberIn yX2_numberIn, Cond.code yX2_numberIn cX2_numberIn 5 (some .int), Cond.methodLink RX2 43 yX2_letGoBy, Cond.static yX2_letGoBy, Cond.code yX2_letGoBy cX2_letGoBy 2 none, Cond.methodLink RX2 60 yX0_hasRoomFor, Cond.instanceMethod yX0_hasRoomFor, Cond.selects RX0 yX0_hasRoomFor yX0_hasRoomFor, Cond.initialized RX0, Cond.code yX0_hasRoomFor cX0_hasRoomFor 2 (some .boolean), Cond.fieldLink RX0 11 "BeamTurnstiles$Hall" "row" "[I", Cond.constant RX0 42 (99999), Cond.methodLink RX2 63 yX0_goBy, Cond.instanceMethod yX0_goBy, Cond.selects RX0 yX0_goBy yX0_goBy, Cond.code yX0_goBy cX0_goBy 2 none, Cond.methodLink RX2 47 yX2_changeBeams, Cond.instanceMethod yX2_changeBeams, Cond.selects RX2 yX2_changeBeams yX2_changeBeams, Cond.code yX2_changeBeams cX2_changeBeams 8 (some .int), Cond.static yX3_isNoGate]
def wsX3_read_r4 : List Cond := [Cond.code yX3_isNoGate cX3_isNoGate 1 (some .boolean), Cond.methodLink RX2 55 yX0_change, Cond.instanceMethod yX0_change, Cond.selects RX0 yX0_change yX0_change, Cond.code yX0_change cX0_change 6 (some .int), Cond.fieldLink RX0 19 "BeamTurnstiles$Hall" "TURNED_BITS" "[I", Cond.methodLink RX0 15 yX0_partOf, Cond.static yX0_partOf, Cond.code yX0_partOf cX0_partOf 1 (some .int), Cond.methodLink RX0 22 yX0_begin, Cond.instanceMethod yX0_begin, Cond.selects RX0 yX0_begin yX0_begin, Cond.code yX0_begin cX0_begin 2 none, Cond.methodLink RX0 26 yX0_end, Cond.instanceMethod yX0_end, Cond.selects RX0 yX0_end yX0_end, Cond.code yX0_end cX0_end 2 none, Cond.methodLink RX0 29 yX0_comeThrough, Cond.instanceMethod yX0_comeThrough, Cond.selects RX0 yX0_comeThrough yX0_comeThrough, Cond.code yX0_comeThrough cX0_comeThrough 4 none, Cond.methodLink RX0 33 yX0_oneMoreInside, Cond.instanceMethod yX0_oneMoreInside, Cond.selects RX0 yX0_oneMoreInside yX0_oneMoreInside]
def wsX3_read_r5 : List Cond := [Cond.code yX0_oneMoreInside cX0_oneMoreInside 1 none, Cond.methodLink RX0 39 yX0_becomeInside, Cond.instanceMethod yX0_becomeInside, Cond.selects RX0 yX0_becomeInside yX0_becomeInside, Cond.code yX0_becomeInside cX0_becomeInside 2 none, Cond.methodLink RX0 36 yX0_oneLessInside, Cond.instanceMethod yX0_oneLessInside, Cond.selects RX0 yX0_oneLessInside yX0_oneLessInside, Cond.code yX0_oneLessInside cX0_oneLessInside 1 none, Cond.methodLink RX3 88 yX2_empty, Cond.instanceMethod yX2_empty, Cond.selects RX2 yX2_empty yX2_empty, Cond.code yX2_empty cX2_empty 1 none]
def wsX3_read : List Cond := .code yX3_read cX3_read 2 (some .int) :: ((wsX3_read_r1 ++ (wsX3_read_r2 ++ (wsX3_read_r3 ++ (wsX3_read_r4 ++ wsX3_read_r5)))) ++ wsX30 ++ wsX00 ++ wsX20 ++ wsX10)
def wsX3_correct_r1 : List Cond := [Cond.fieldLink RX3 29 "BeamTurnstiles" "history" "LBeamTurnstiles$History;", Cond.fieldLink RX3 10 "BeamTurnstiles" "hall" "LBeamTurnstiles$Hall;", Cond.fieldLink RX3 49 "BeamTurnstiles$Hall" "row" "[I", Cond.methodLink RX3 52 yX1_keep, Cond.instanceMethod yX1_keep, Cond.selects RX1 yX1_keep yX1_keep, Cond.initialized RX1, Cond.code yX1_keep cX1_keep 2 none, Cond.fieldLink RX1 13 "BeamTurnstiles$History" "rows" "[[I", Cond.fieldLink RX1 16 "BeamTurnstiles$History" "next" "I", Cond.fieldLink RX1 20 "BeamTurnstiles$History" "size" "I", Cond.methodLink RX1 29 Lib.Math.min.name, Cond.static Lib.Math.min.name, Cond.initialized "java/lang/Math", Cond.code Lib.Math.min.name Lib.Math.min.code 2 (some .int), Cond.static yX3_copyRow, Cond.initialized RX3, Cond.code yX3_copyRow cX3_copyRow 2 none, Cond.methodLink RX3 155 arraycopyName, Cond.native arraycopyName, Cond.static arraycopyName, Cond.initialized "java/lang/System", Cond.methodLink RX3 91 yX0_becomeInside, Cond.instanceMethod yX0_becomeInside]
def wsX3_correct_r2 : List Cond := [Cond.selects RX0 yX0_becomeInside yX0_becomeInside, Cond.initialized RX0, Cond.code yX0_becomeInside cX0_becomeInside 2 none, Cond.fieldLink RX0 11 "BeamTurnstiles$Hall" "row" "[I"]
def wsX3_correct : List Cond := .code yX3_correct cX3_correct 3 (some .int) :: ((wsX3_correct_r1 ++ wsX3_correct_r2) ++ wsX30 ++ wsX00 ++ wsX10)
def wsX3_clear_r1 : List Cond := [Cond.fieldLink RX3 10 "BeamTurnstiles" "hall" "LBeamTurnstiles$Hall;", Cond.fieldLink RX3 29 "BeamTurnstiles" "history" "LBeamTurnstiles$History;", Cond.fieldLink RX3 49 "BeamTurnstiles$Hall" "row" "[I", Cond.methodLink RX3 56 yX3_isNoGate, Cond.static yX3_isNoGate, Cond.initialized RX3, Cond.code yX3_isNoGate cX3_isNoGate 1 (some .boolean), Cond.methodLink RX3 94 yX0_isUnderWay, Cond.instanceMethod yX0_isUnderWay, Cond.selects RX0 yX0_isUnderWay yX0_isUnderWay, Cond.initialized RX0, Cond.code yX0_isUnderWay cX0_isUnderWay 2 (some .boolean), Cond.fieldLink RX0 11 "BeamTurnstiles$Hall" "row" "[I", Cond.methodLink RX0 15 yX0_partOf, Cond.static yX0_partOf, Cond.code yX0_partOf cX0_partOf 1 (some .int), Cond.methodLink RX3 52 yX1_keep, Cond.instanceMethod yX1_keep, Cond.selects RX1 yX1_keep yX1_keep, Cond.initialized RX1, Cond.code yX1_keep cX1_keep 2 none, Cond.fieldLink RX1 13 "BeamTurnstiles$History" "rows" "[[I", Cond.fieldLink RX1 16 "BeamTurnstiles$History" "next" "I", Cond.fieldLink RX1 20 "BeamTurnstiles$History" "size" "I"]
def wsX3_clear_r2 : List Cond := [Cond.methodLink RX1 29 Lib.Math.min.name, Cond.static Lib.Math.min.name, Cond.initialized "java/lang/Math", Cond.code Lib.Math.min.name Lib.Math.min.code 2 (some .int), Cond.static yX3_copyRow, Cond.code yX3_copyRow cX3_copyRow 2 none, Cond.methodLink RX3 155 arraycopyName, Cond.native arraycopyName, Cond.static arraycopyName, Cond.initialized "java/lang/System", Cond.methodLink RX3 97 yX0_free, Cond.instanceMethod yX0_free, Cond.selects RX0 yX0_free yX0_free, Cond.code yX0_free cX0_free 4 (some .int), Cond.methodLink RX0 26 yX0_end, Cond.instanceMethod yX0_end, Cond.selects RX0 yX0_end yX0_end, Cond.code yX0_end cX0_end 2 none, Cond.methodLink RX0 29 yX0_comeThrough, Cond.instanceMethod yX0_comeThrough, Cond.selects RX0 yX0_comeThrough yX0_comeThrough, Cond.code yX0_comeThrough cX0_comeThrough 4 none, Cond.methodLink RX0 33 yX0_oneMoreInside, Cond.instanceMethod yX0_oneMoreInside]
def wsX3_clear_r3 : List Cond := [Cond.selects RX0 yX0_oneMoreInside yX0_oneMoreInside, Cond.code yX0_oneMoreInside cX0_oneMoreInside 1 none, Cond.methodLink RX0 39 yX0_becomeInside, Cond.instanceMethod yX0_becomeInside, Cond.selects RX0 yX0_becomeInside yX0_becomeInside, Cond.code yX0_becomeInside cX0_becomeInside 2 none, Cond.methodLink RX0 36 yX0_oneLessInside, Cond.instanceMethod yX0_oneLessInside, Cond.selects RX0 yX0_oneLessInside yX0_oneLessInside, Cond.code yX0_oneLessInside cX0_oneLessInside 1 none]
def wsX3_clear : List Cond := .code yX3_clear cX3_clear 2 (some .int) :: ((wsX3_clear_r1 ++ (wsX3_clear_r2 ++ wsX3_clear_r3)) ++ wsX30 ++ wsX00 ++ wsX10)
def wsX3_gate_r1 : List Cond := [Cond.fieldLink RX3 10 "BeamTurnstiles" "hall" "LBeamTurnstiles$Hall;", Cond.methodLink RX3 56 yX3_isNoGate, Cond.static yX3_isNoGate, Cond.initialized RX3, Cond.code yX3_isNoGate cX3_isNoGate 1 (some .boolean), Cond.methodLink RX3 100 yX0_tell, Cond.instanceMethod yX0_tell, Cond.selects RX0 yX0_tell yX0_tell, Cond.initialized RX0, Cond.code yX0_tell cX0_tell 3 (some .int), Cond.fieldLink RX0 11 "BeamTurnstiles$Hall" "row" "[I", Cond.methodLink RX0 43 yX0_isUnderWay, Cond.instanceMethod yX0_isUnderWay, Cond.selects RX0 yX0_isUnderWay yX0_isUnderWay, Cond.code yX0_isUnderWay cX0_isUnderWay 2 (some .boolean), Cond.methodLink RX0 15 yX0_partOf, Cond.static yX0_partOf, Cond.code yX0_partOf cX0_partOf 1 (some .int), Cond.methodLink RX0 53 yX0_isSure, Cond.instanceMethod yX0_isSure, Cond.selects RX0 yX0_isSure yX0_isSure, Cond.code yX0_isSure cX0_isSure 2 (some .boolean), Cond.methodLink RX0 56 yX0_placeOf, Cond.instanceMethod yX0_placeOf]
def wsX3_gate_r2 : List Cond := [Cond.selects RX0 yX0_placeOf yX0_placeOf, Cond.code yX0_placeOf cX0_placeOf 2 (some .int), Cond.methodLink RX0 50 yX0_isBlocked, Cond.instanceMethod yX0_isBlocked, Cond.selects RX0 yX0_isBlocked yX0_isBlocked, Cond.code yX0_isBlocked cX0_isBlocked 2 (some .boolean), Cond.methodLink RX0 47 yX0_ticksUnderWay, Cond.instanceMethod yX0_ticksUnderWay, Cond.selects RX0 yX0_ticksUnderWay yX0_ticksUnderWay, Cond.code yX0_ticksUnderWay cX0_ticksUnderWay 2 (some .int)]
def wsX3_gate : List Cond := .code yX3_gate cX3_gate 3 (some .int) :: ((wsX3_gate_r1 ++ wsX3_gate_r2) ++ wsX30 ++ wsX00)
def wsX3_count_r1 : List Cond := [Cond.fieldLink RX3 10 "BeamTurnstiles" "hall" "LBeamTurnstiles$Hall;", Cond.fieldLink RX3 49 "BeamTurnstiles$Hall" "row" "[I", Cond.fieldLink RX3 22 "BeamTurnstiles" "pad" "LBeamTurnstiles$Pad;", Cond.fieldLink RX3 106 "BeamTurnstiles$Pad" "length" "I", Cond.fieldLink RX3 29 "BeamTurnstiles" "history" "LBeamTurnstiles$History;", Cond.fieldLink RX3 110 "BeamTurnstiles$History" "size" "I", Cond.methodLink RX3 71 yX0_blockedMask, Cond.instanceMethod yX0_blockedMask, Cond.selects RX0 yX0_blockedMask yX0_blockedMask, Cond.initialized RX0, Cond.code yX0_blockedMask cX0_blockedMask 3 (some .int), Cond.methodLink RX0 50 yX0_isBlocked, Cond.instanceMethod yX0_isBlocked, Cond.selects RX0 yX0_isBlocked yX0_isBlocked, Cond.code yX0_isBlocked cX0_isBlocked 2 (some .boolean), Cond.fieldLink RX0 11 "BeamTurnstiles$Hall" "row" "[I", Cond.methodLink RX0 43 yX0_isUnderWay, Cond.instanceMethod yX0_isUnderWay, Cond.selects RX0 yX0_isUnderWay yX0_isUnderWay, Cond.code yX0_isUnderWay cX0_isUnderWay 2 (some .boolean), Cond.methodLink RX0 15 yX0_partOf, Cond.static yX0_partOf, Cond.code yX0_partOf cX0_partOf 1 (some .int), Cond.methodLink RX0 47 yX0_ticksUnderWay]
def wsX3_count_r2 : List Cond := [Cond.instanceMethod yX0_ticksUnderWay, Cond.selects RX0 yX0_ticksUnderWay yX0_ticksUnderWay, Cond.code yX0_ticksUnderWay cX0_ticksUnderWay 2 (some .int), Cond.methodLink RX3 103 yX0_underWayMask, Cond.instanceMethod yX0_underWayMask, Cond.selects RX0 yX0_underWayMask yX0_underWayMask, Cond.code yX0_underWayMask cX0_underWayMask 3 (some .int), Cond.methodLink RX3 113 yX0_sumOfGates, Cond.instanceMethod yX0_sumOfGates, Cond.selects RX0 yX0_sumOfGates yX0_sumOfGates, Cond.code yX0_sumOfGates cX0_sumOfGates 4 (some .int)]
def wsX3_count : List Cond := .code yX3_count cX3_count 2 (some .int) :: ((wsX3_count_r1 ++ wsX3_count_r2) ++ wsX30 ++ wsX00 ++ wsX20 ++ wsX10)
def wsX3_mean_r1 : List Cond := [Cond.fieldLink RX3 10 "BeamTurnstiles" "hall" "LBeamTurnstiles$Hall;", Cond.methodLink RX3 56 yX3_isNoGate, Cond.static yX3_isNoGate, Cond.initialized RX3, Cond.code yX3_isNoGate cX3_isNoGate 1 (some .boolean), Cond.methodLink RX3 116 yX0_passagesThrough, Cond.instanceMethod yX0_passagesThrough, Cond.selects RX0 yX0_passagesThrough yX0_passagesThrough, Cond.initialized RX0, Cond.code yX0_passagesThrough cX0_passagesThrough 3 (some .int), Cond.fieldLink RX0 11 "BeamTurnstiles$Hall" "row" "[I", Cond.methodLink RX0 15 yX0_partOf, Cond.static yX0_partOf, Cond.code yX0_partOf cX0_partOf 1 (some .int), Cond.methodLink RX3 100 yX0_tell, Cond.instanceMethod yX0_tell, Cond.selects RX0 yX0_tell yX0_tell, Cond.code yX0_tell cX0_tell 3 (some .int), Cond.methodLink RX0 43 yX0_isUnderWay, Cond.instanceMethod yX0_isUnderWay, Cond.selects RX0 yX0_isUnderWay yX0_isUnderWay, Cond.code yX0_isUnderWay cX0_isUnderWay 2 (some .boolean), Cond.methodLink RX0 53 yX0_isSure, Cond.instanceMethod yX0_isSure]
def wsX3_mean_r2 : List Cond := [Cond.selects RX0 yX0_isSure yX0_isSure, Cond.code yX0_isSure cX0_isSure 2 (some .boolean), Cond.methodLink RX0 56 yX0_placeOf, Cond.instanceMethod yX0_placeOf, Cond.selects RX0 yX0_placeOf yX0_placeOf, Cond.code yX0_placeOf cX0_placeOf 2 (some .int), Cond.methodLink RX0 50 yX0_isBlocked, Cond.instanceMethod yX0_isBlocked, Cond.selects RX0 yX0_isBlocked yX0_isBlocked, Cond.code yX0_isBlocked cX0_isBlocked 2 (some .boolean), Cond.methodLink RX0 47 yX0_ticksUnderWay, Cond.instanceMethod yX0_ticksUnderWay, Cond.selects RX0 yX0_ticksUnderWay yX0_ticksUnderWay, Cond.code yX0_ticksUnderWay cX0_ticksUnderWay 2 (some .int)]
def wsX3_mean : List Cond := .code yX3_mean cX3_mean 3 (some .int) :: ((wsX3_mean_r1 ++ wsX3_mean_r2) ++ wsX30 ++ wsX00)
def wsX3_busiest : List Cond := .code yX3_busiest cX3_busiest 5 (some .int) :: ([.fieldLink RX3 10 "BeamTurnstiles" "hall" "LBeamTurnstiles$Hall;", .methodLink RX3 116 yX0_passagesThrough, .instanceMethod yX0_passagesThrough, .selects RX0 yX0_passagesThrough yX0_passagesThrough, .initialized RX0, .code yX0_passagesThrough cX0_passagesThrough 3 (some .int), .fieldLink RX0 11 "BeamTurnstiles$Hall" "row" "[I", .methodLink RX0 15 yX0_partOf, .static yX0_partOf, .code yX0_partOf cX0_partOf 1 (some .int)] ++ wsX30 ++ wsX00)
def wsX3_ifRead_r1 : List Cond := [Cond.fieldLink RX3 22 "BeamTurnstiles" "pad" "LBeamTurnstiles$Pad;", Cond.fieldLink RX3 10 "BeamTurnstiles" "hall" "LBeamTurnstiles$Hall;", Cond.fieldLink RX3 49 "BeamTurnstiles$Hall" "row" "[I", Cond.fieldLink RX3 16 "BeamTurnstiles" "trial" "LBeamTurnstiles$Hall;", Cond.methodLink RX3 81 yX2_firstFault, Cond.instanceMethod yX2_firstFault, Cond.selects RX2 yX2_firstFault yX2_firstFault, Cond.initialized RX2, Cond.code yX2_firstFault cX2_firstFault 3 (some .int), Cond.fieldLink RX2 15 "BeamTurnstiles$Pad" "length" "I", Cond.fieldLink RX2 11 "BeamTurnstiles$Pad" "text" "[C", Cond.methodLink RX2 21 yX2_stateAfter, Cond.static yX2_stateAfter, Cond.code yX2_stateAfter cX2_stateAfter 2 (some .int), Cond.methodLink RX2 25 yX2_isGateDigit, Cond.static yX2_isGateDigit, Cond.code yX2_isGateDigit cX2_isGateDigit 1 (some .boolean), Cond.methodLink RX2 29 yX2_beamOf, Cond.static yX2_beamOf, Cond.code yX2_beamOf cX2_beamOf 1 (some .int), Cond.methodLink RX2 33 yX2_afterEvent, Cond.static yX2_afterEvent, Cond.code yX2_afterEvent cX2_afterEvent 1 (some .int), Cond.methodLink RX2 36 yX2_isDigit]
def wsX3_ifRead_r2 : List Cond := [Cond.static yX2_isDigit, Cond.code yX2_isDigit cX2_isDigit 1 (some .boolean), Cond.methodLink RX3 119 yX3_copyRow, Cond.static yX3_copyRow, Cond.initialized RX3, Cond.code yX3_copyRow cX3_copyRow 2 none, Cond.methodLink RX3 155 arraycopyName, Cond.native arraycopyName, Cond.static arraycopyName, Cond.initialized "java/lang/System", Cond.methodLink RX3 84 yX2_happenIn, Cond.instanceMethod yX2_happenIn, Cond.selects RX2 yX2_happenIn yX2_happenIn, Cond.code yX2_happenIn cX2_happenIn 6 (some .int), Cond.methodLink RX2 39 yX2_numberIn, Cond.instanceMethod yX2_numberIn, Cond.selects RX2 yX2_numberIn yX2_numberIn, Cond.code yX2_numberIn cX2_numberIn 5 (some .int), Cond.methodLink RX2 43 yX2_letGoBy, Cond.static yX2_letGoBy, Cond.code yX2_letGoBy cX2_letGoBy 2 none, Cond.methodLink RX2 60 yX0_hasRoomFor, Cond.instanceMethod yX0_hasRoomFor, Cond.selects RX0 yX0_hasRoomFor yX0_hasRoomFor]
def wsX3_ifRead_r3 : List Cond := [Cond.initialized RX0, Cond.code yX0_hasRoomFor cX0_hasRoomFor 2 (some .boolean), Cond.fieldLink RX0 11 "BeamTurnstiles$Hall" "row" "[I", Cond.constant RX0 42 (99999), Cond.methodLink RX2 63 yX0_goBy, Cond.instanceMethod yX0_goBy, Cond.selects RX0 yX0_goBy yX0_goBy, Cond.code yX0_goBy cX0_goBy 2 none, Cond.methodLink RX2 47 yX2_changeBeams, Cond.instanceMethod yX2_changeBeams, Cond.selects RX2 yX2_changeBeams yX2_changeBeams, Cond.code yX2_changeBeams cX2_changeBeams 8 (some .int), Cond.static yX3_isNoGate, Cond.code yX3_isNoGate cX3_isNoGate 1 (some .boolean), Cond.methodLink RX2 55 yX0_change, Cond.instanceMethod yX0_change, Cond.selects RX0 yX0_change yX0_change, Cond.code yX0_change cX0_change 6 (some .int), Cond.fieldLink RX0 19 "BeamTurnstiles$Hall" "TURNED_BITS" "[I", Cond.methodLink RX0 15 yX0_partOf, Cond.static yX0_partOf, Cond.code yX0_partOf cX0_partOf 1 (some .int), Cond.methodLink RX0 22 yX0_begin, Cond.instanceMethod yX0_begin]
def wsX3_ifRead_r4 : List Cond := [Cond.selects RX0 yX0_begin yX0_begin, Cond.code yX0_begin cX0_begin 2 none, Cond.methodLink RX0 26 yX0_end, Cond.instanceMethod yX0_end, Cond.selects RX0 yX0_end yX0_end, Cond.code yX0_end cX0_end 2 none, Cond.methodLink RX0 29 yX0_comeThrough, Cond.instanceMethod yX0_comeThrough, Cond.selects RX0 yX0_comeThrough yX0_comeThrough, Cond.code yX0_comeThrough cX0_comeThrough 4 none, Cond.methodLink RX0 33 yX0_oneMoreInside, Cond.instanceMethod yX0_oneMoreInside, Cond.selects RX0 yX0_oneMoreInside yX0_oneMoreInside, Cond.code yX0_oneMoreInside cX0_oneMoreInside 1 none, Cond.methodLink RX0 39 yX0_becomeInside, Cond.instanceMethod yX0_becomeInside, Cond.selects RX0 yX0_becomeInside yX0_becomeInside, Cond.code yX0_becomeInside cX0_becomeInside 2 none, Cond.methodLink RX0 36 yX0_oneLessInside, Cond.instanceMethod yX0_oneLessInside, Cond.selects RX0 yX0_oneLessInside yX0_oneLessInside, Cond.code yX0_oneLessInside cX0_oneLessInside 1 none, Cond.methodLink RX3 113 yX0_sumOfGates, Cond.instanceMethod yX0_sumOfGates]
def wsX3_ifRead_r5 : List Cond := [Cond.selects RX0 yX0_sumOfGates yX0_sumOfGates, Cond.code yX0_sumOfGates cX0_sumOfGates 4 (some .int)]
def wsX3_ifRead : List Cond := .code yX3_ifRead cX3_ifRead 2 (some .int) :: ((wsX3_ifRead_r1 ++ (wsX3_ifRead_r2 ++ (wsX3_ifRead_r3 ++ (wsX3_ifRead_r4 ++ wsX3_ifRead_r5)))) ++ wsX30 ++ wsX00 ++ wsX20)
def wsX3_eventsTo_r1 : List Cond := [Cond.fieldLink RX3 10 "BeamTurnstiles" "hall" "LBeamTurnstiles$Hall;", Cond.methodLink RX3 129 Lib.Math.abs.name, Cond.static Lib.Math.abs.name, Cond.initialized "java/lang/Math", Cond.code Lib.Math.abs.name Lib.Math.abs.code 1 (some .int), Cond.methodLink RX3 56 yX3_isNoGate, Cond.static yX3_isNoGate, Cond.initialized RX3, Cond.code yX3_isNoGate cX3_isNoGate 1 (some .boolean), Cond.methodLink RX3 94 yX0_isUnderWay, Cond.instanceMethod yX0_isUnderWay, Cond.selects RX0 yX0_isUnderWay yX0_isUnderWay, Cond.initialized RX0, Cond.code yX0_isUnderWay cX0_isUnderWay 2 (some .boolean), Cond.fieldLink RX0 11 "BeamTurnstiles$Hall" "row" "[I", Cond.methodLink RX0 15 yX0_partOf, Cond.static yX0_partOf, Cond.code yX0_partOf cX0_partOf 1 (some .int), Cond.methodLink RX3 123 yX0_isSure, Cond.instanceMethod yX0_isSure, Cond.selects RX0 yX0_isSure yX0_isSure, Cond.code yX0_isSure cX0_isSure 2 (some .boolean), Cond.methodLink RX3 126 yX0_placeOf, Cond.instanceMethod yX0_placeOf]
def wsX3_eventsTo_r2 : List Cond := [Cond.selects RX0 yX0_placeOf yX0_placeOf, Cond.code yX0_placeOf cX0_placeOf 2 (some .int)]
def wsX3_eventsTo : List Cond := .code yX3_eventsTo cX3_eventsTo 6 (some .int) :: ((wsX3_eventsTo_r1 ++ wsX3_eventsTo_r2) ++ wsX30 ++ wsX00)
def wsX3_untilBlocked : List Cond := .code yX3_untilBlocked cX3_untilBlocked 4 (some .int) :: ([.fieldLink RX3 10 "BeamTurnstiles" "hall" "LBeamTurnstiles$Hall;", .fieldLink RX3 49 "BeamTurnstiles$Hall" "row" "[I", .methodLink RX3 94 yX0_isUnderWay, .instanceMethod yX0_isUnderWay, .selects RX0 yX0_isUnderWay yX0_isUnderWay, .initialized RX0, .code yX0_isUnderWay cX0_isUnderWay 2 (some .boolean), .fieldLink RX0 11 "BeamTurnstiles$Hall" "row" "[I", .methodLink RX0 15 yX0_partOf, .static yX0_partOf, .code yX0_partOf cX0_partOf 1 (some .int), .methodLink RX3 134 yX0_isBlocked, .instanceMethod yX0_isBlocked, .selects RX0 yX0_isBlocked yX0_isBlocked, .code yX0_isBlocked cX0_isBlocked 2 (some .boolean), .methodLink RX0 43 yX0_isUnderWay, .methodLink RX0 47 yX0_ticksUnderWay, .instanceMethod yX0_ticksUnderWay, .selects RX0 yX0_ticksUnderWay yX0_ticksUnderWay, .code yX0_ticksUnderWay cX0_ticksUnderWay 2 (some .int), .methodLink RX3 137 yX0_ticksUnderWay] ++ wsX30 ++ wsX00)
def wsX3_put : List Cond := .code yX3_put cX3_put 4 (some .int) :: ([.fieldLink RX3 22 "BeamTurnstiles" "pad" "LBeamTurnstiles$Pad;", .fieldLink RX3 106 "BeamTurnstiles$Pad" "length" "I", .methodLink RX3 140 yX2_numberOf, .static yX2_numberOf, .initialized RX2, .code yX2_numberOf cX2_numberOf 6 (some .int), .constantLong RX2 19 (255), .methodLink RX3 144 yX2_hasRoomFor, .instanceMethod yX2_hasRoomFor, .selects RX2 yX2_hasRoomFor yX2_hasRoomFor, .code yX2_hasRoomFor cX2_hasRoomFor 2 (some .boolean), .fieldLink RX2 15 "BeamTurnstiles$Pad" "length" "I", .methodLink RX3 145 yX2_append, .instanceMethod yX2_append, .selects RX2 yX2_append yX2_append, .code yX2_append cX2_append 5 none, .fieldLink RX2 11 "BeamTurnstiles$Pad" "text" "[C"] ++ wsX30 ++ wsX20)
def wsX3_wipe : List Cond := .code yX3_wipe cX3_wipe 2 (some .int) :: ([.fieldLink RX3 22 "BeamTurnstiles" "pad" "LBeamTurnstiles$Pad;", .fieldLink RX3 106 "BeamTurnstiles$Pad" "length" "I", .methodLink RX3 88 yX2_empty, .instanceMethod yX2_empty, .selects RX2 yX2_empty yX2_empty, .initialized RX2, .code yX2_empty cX2_empty 1 none, .fieldLink RX2 15 "BeamTurnstiles$Pad" "length" "I"] ++ wsX30 ++ wsX20)
def wsX3_fault : List Cond := .code yX3_fault cX3_fault 1 (some .int) :: ([.fieldLink RX3 22 "BeamTurnstiles" "pad" "LBeamTurnstiles$Pad;", .methodLink RX3 81 yX2_firstFault, .instanceMethod yX2_firstFault, .selects RX2 yX2_firstFault yX2_firstFault, .initialized RX2, .code yX2_firstFault cX2_firstFault 3 (some .int), .fieldLink RX2 15 "BeamTurnstiles$Pad" "length" "I", .fieldLink RX2 11 "BeamTurnstiles$Pad" "text" "[C", .methodLink RX2 21 yX2_stateAfter, .static yX2_stateAfter, .code yX2_stateAfter cX2_stateAfter 2 (some .int), .methodLink RX2 25 yX2_isGateDigit, .static yX2_isGateDigit, .code yX2_isGateDigit cX2_isGateDigit 1 (some .boolean), .methodLink RX2 29 yX2_beamOf, .static yX2_beamOf, .code yX2_beamOf cX2_beamOf 1 (some .int), .methodLink RX2 33 yX2_afterEvent, .static yX2_afterEvent, .code yX2_afterEvent cX2_afterEvent 1 (some .int), .methodLink RX2 36 yX2_isDigit, .static yX2_isDigit, .code yX2_isDigit cX2_isDigit 1 (some .boolean)] ++ wsX30 ++ wsX20)
def wsX3_undo : List Cond := .code yX3_undo cX3_undo 1 (some .int) :: ([.fieldLink RX3 29 "BeamTurnstiles" "history" "LBeamTurnstiles$History;", .fieldLink RX3 110 "BeamTurnstiles$History" "size" "I", .fieldLink RX3 10 "BeamTurnstiles" "hall" "LBeamTurnstiles$Hall;", .fieldLink RX3 49 "BeamTurnstiles$Hall" "row" "[I", .methodLink RX3 149 yX1_takeBack, .instanceMethod yX1_takeBack, .selects RX1 yX1_takeBack yX1_takeBack, .initialized RX1, .code yX1_takeBack cX1_takeBack 2 none, .fieldLink RX1 16 "BeamTurnstiles$History" "next" "I", .fieldLink RX1 13 "BeamTurnstiles$History" "rows" "[[I", .fieldLink RX1 20 "BeamTurnstiles$History" "size" "I", .static yX3_copyRow, .initialized RX3, .code yX3_copyRow cX3_copyRow 2 none, .methodLink RX3 155 arraycopyName, .native arraycopyName, .static arraycopyName, .initialized "java/lang/System"] ++ wsX30 ++ wsX10 ++ wsX00)
def wsX3_isNoSlot : List Cond := .code yX3_isNoSlot cX3_isNoSlot 1 (some .boolean) :: ([])
def wsX3_save : List Cond := .code yX3_save cX3_save 2 (some .int) :: ([.fieldLink RX3 10 "BeamTurnstiles" "hall" "LBeamTurnstiles$Hall;", .fieldLink RX3 49 "BeamTurnstiles$Hall" "row" "[I", .fieldLink RX3 35 "BeamTurnstiles" "slots" "[[I", .fieldLink RX3 38 "BeamTurnstiles" "saved" "[Z", .methodLink RX3 152 yX3_isNoSlot, .static yX3_isNoSlot, .initialized RX3, .code yX3_isNoSlot cX3_isNoSlot 1 (some .boolean), .methodLink RX3 119 yX3_copyRow, .static yX3_copyRow, .code yX3_copyRow cX3_copyRow 2 none, .methodLink RX3 155 arraycopyName, .native arraycopyName, .static arraycopyName, .initialized "java/lang/System"] ++ wsX30 ++ wsX00)
def wsX3_restore_r1 : List Cond := [Cond.fieldLink RX3 38 "BeamTurnstiles" "saved" "[Z", Cond.fieldLink RX3 29 "BeamTurnstiles" "history" "LBeamTurnstiles$History;", Cond.fieldLink RX3 10 "BeamTurnstiles" "hall" "LBeamTurnstiles$Hall;", Cond.fieldLink RX3 49 "BeamTurnstiles$Hall" "row" "[I", Cond.fieldLink RX3 35 "BeamTurnstiles" "slots" "[[I", Cond.methodLink RX3 152 yX3_isNoSlot, Cond.static yX3_isNoSlot, Cond.initialized RX3, Cond.code yX3_isNoSlot cX3_isNoSlot 1 (some .boolean), Cond.methodLink RX3 52 yX1_keep, Cond.instanceMethod yX1_keep, Cond.selects RX1 yX1_keep yX1_keep, Cond.initialized RX1, Cond.code yX1_keep cX1_keep 2 none, Cond.fieldLink RX1 13 "BeamTurnstiles$History" "rows" "[[I", Cond.fieldLink RX1 16 "BeamTurnstiles$History" "next" "I", Cond.fieldLink RX1 20 "BeamTurnstiles$History" "size" "I", Cond.methodLink RX1 29 Lib.Math.min.name, Cond.static Lib.Math.min.name, Cond.initialized "java/lang/Math", Cond.code Lib.Math.min.name Lib.Math.min.code 2 (some .int), Cond.static yX3_copyRow, Cond.code yX3_copyRow cX3_copyRow 2 none, Cond.methodLink RX3 155 arraycopyName]
def wsX3_restore_r2 : List Cond := [Cond.native arraycopyName, Cond.static arraycopyName, Cond.initialized "java/lang/System", Cond.methodLink RX3 119 yX3_copyRow]
def wsX3_restore : List Cond := .code yX3_restore cX3_restore 2 (some .int) :: ((wsX3_restore_r1 ++ wsX3_restore_r2) ++ wsX30 ++ wsX00 ++ wsX10)
def wsX4_lays : List Cond := .code yX4_lays cX4_lays 4 none :: ([.fieldLink RX4 7 "BeamTurnstilesModel" "all" "[I"] ++ wsX40)
def wsX4_init : List Cond := .code yX4_init cX4_init 2 none :: ([.methodLink RX4 1 objectInit, .instanceMethod objectInit, .code objectInit ⟨#[0xb1]⟩ 1 none, .arrayClass .int, .fieldLink RX4 7 "BeamTurnstilesModel" "all" "[I", .fieldLink RX4 13 "BeamTurnstilesModel" "kept" "[I", .fieldLink RX4 16 "BeamTurnstilesModel" "history" "[I", .fieldLink RX4 19 "BeamTurnstilesModel" "slots" "[I", .fieldLink RX4 22 "BeamTurnstilesModel" "isSaved" "[I", .fieldLink RX4 25 "BeamTurnstilesModel" "text" "[I", .methodLink RX4 28 yX4_lays, .instanceMethod yX4_lays, .selects RX4 yX4_lays yX4_lays, .initialized RX4, .code yX4_lays cX4_lays 4 none] ++ wsX40)
def wsX4_in : List Cond := .code yX4_in cX4_in 6 (some .boolean) :: ([])
def wsX4_changes : List Cond := .code yX4_changes cX4_changes 2 none :: ([.fieldLink RX4 32 "BeamTurnstilesModel" "historyLong" "I", .fieldLink RX4 16 "BeamTurnstilesModel" "history" "[I", .fieldLink RX4 7 "BeamTurnstilesModel" "all" "[I"] ++ wsX40)
def wsX4_keeps : List Cond := .code yX4_keeps cX4_keeps 2 none :: ([.fieldLink RX4 13 "BeamTurnstilesModel" "kept" "[I", .fieldLink RX4 7 "BeamTurnstilesModel" "all" "[I"] ++ wsX40)
def wsX4_comesBack : List Cond := .code yX4_comesBack cX4_comesBack 2 none :: ([.fieldLink RX4 7 "BeamTurnstilesModel" "all" "[I", .fieldLink RX4 13 "BeamTurnstilesModel" "kept" "[I"] ++ wsX40)
def wsX4_isGate : List Cond := .code yX4_isGate cX4_isGate 1 (some .boolean) :: ([.constantLong RX4 36 (5), .methodLink RX4 38 yX4_in, .static yX4_in, .initialized RX4, .code yX4_in cX4_in 6 (some .boolean)])
def wsX4_get : List Cond := .code yX4_get cX4_get 3 (some .int) :: ([.fieldLink RX4 7 "BeamTurnstilesModel" "all" "[I"] ++ wsX40)
def wsX4_more : List Cond := .code yX4_more cX4_more 4 none :: ([.fieldLink RX4 7 "BeamTurnstilesModel" "all" "[I"] ++ wsX40)
def wsX4_isUnderWay : List Cond := .code yX4_isUnderWay cX4_isUnderWay 2 (some .boolean) :: ([.methodLink RX4 42 yX4_get, .instanceMethod yX4_get, .selects RX4 yX4_get yX4_get, .initialized RX4, .code yX4_get cX4_get 3 (some .int), .fieldLink RX4 7 "BeamTurnstilesModel" "all" "[I"] ++ wsX40)
def wsX4_isBlocked : List Cond := .code yX4_isBlocked cX4_isBlocked 2 (some .boolean) :: ([.fieldLink RX4 7 "BeamTurnstilesModel" "all" "[I", .methodLink RX4 46 yX4_isUnderWay, .instanceMethod yX4_isUnderWay, .selects RX4 yX4_isUnderWay yX4_isUnderWay, .initialized RX4, .code yX4_isUnderWay cX4_isUnderWay 2 (some .boolean), .methodLink RX4 42 yX4_get, .instanceMethod yX4_get, .selects RX4 yX4_get yX4_get, .code yX4_get cX4_get 3 (some .int)] ++ wsX40)
def wsX4_lookBehind : List Cond := .code yX4_lookBehind cX4_lookBehind 3 (some .int) :: ([])
def wsX4_comesIn : List Cond := .code yX4_comesIn cX4_comesIn 1 none :: ([.fieldLink RX4 7 "BeamTurnstilesModel" "all" "[I"] ++ wsX40)
def wsX4_goesOut : List Cond := .code yX4_goesOut cX4_goesOut 1 none :: ([.fieldLink RX4 7 "BeamTurnstilesModel" "all" "[I"] ++ wsX40)
def wsX4_counts : List Cond := .code yX4_counts cX4_counts 4 none :: ([.fieldLink RX4 7 "BeamTurnstilesModel" "all" "[I", .methodLink RX4 42 yX4_get, .instanceMethod yX4_get, .selects RX4 yX4_get yX4_get, .initialized RX4, .code yX4_get cX4_get 3 (some .int), .methodLink RX4 50 yX4_more, .instanceMethod yX4_more, .selects RX4 yX4_more yX4_more, .code yX4_more cX4_more 4 none, .methodLink RX4 28 yX4_lays, .instanceMethod yX4_lays, .selects RX4 yX4_lays yX4_lays, .code yX4_lays cX4_lays 4 none, .methodLink RX4 53 yX4_comesIn, .instanceMethod yX4_comesIn, .selects RX4 yX4_comesIn yX4_comesIn, .code yX4_comesIn cX4_comesIn 1 none, .methodLink RX4 56 yX4_goesOut, .instanceMethod yX4_goesOut, .selects RX4 yX4_goesOut yX4_goesOut, .code yX4_goesOut cX4_goesOut 1 none] ++ wsX40)
def wsX4_ends_r1 : List Cond := [Cond.methodLink RX4 50 yX4_more, Cond.instanceMethod yX4_more, Cond.selects RX4 yX4_more yX4_more, Cond.initialized RX4, Cond.code yX4_more cX4_more 4 none, Cond.fieldLink RX4 7 "BeamTurnstilesModel" "all" "[I", Cond.methodLink RX4 59 yX4_isBlocked, Cond.instanceMethod yX4_isBlocked, Cond.selects RX4 yX4_isBlocked yX4_isBlocked, Cond.code yX4_isBlocked cX4_isBlocked 2 (some .boolean), Cond.methodLink RX4 46 yX4_isUnderWay, Cond.instanceMethod yX4_isUnderWay, Cond.selects RX4 yX4_isUnderWay yX4_isUnderWay, Cond.code yX4_isUnderWay cX4_isUnderWay 2 (some .boolean), Cond.methodLink RX4 42 yX4_get, Cond.instanceMethod yX4_get, Cond.selects RX4 yX4_get yX4_get, Cond.code yX4_get cX4_get 3 (some .int), Cond.methodLink RX4 62 yX4_counts, Cond.instanceMethod yX4_counts, Cond.selects RX4 yX4_counts yX4_counts, Cond.code yX4_counts cX4_counts 4 none, Cond.methodLink RX4 28 yX4_lays, Cond.instanceMethod yX4_lays]
def wsX4_ends_r2 : List Cond := [Cond.selects RX4 yX4_lays yX4_lays, Cond.code yX4_lays cX4_lays 4 none, Cond.methodLink RX4 53 yX4_comesIn, Cond.instanceMethod yX4_comesIn, Cond.selects RX4 yX4_comesIn yX4_comesIn, Cond.code yX4_comesIn cX4_comesIn 1 none, Cond.methodLink RX4 56 yX4_goesOut, Cond.instanceMethod yX4_goesOut, Cond.selects RX4 yX4_goesOut yX4_goesOut, Cond.code yX4_goesOut cX4_goesOut 1 none]
def wsX4_ends : List Cond := .code yX4_ends cX4_ends 3 none :: ((wsX4_ends_r1 ++ wsX4_ends_r2) ++ wsX40)
def wsX4_happens_r1 : List Cond := [Cond.fieldLink RX4 7 "BeamTurnstilesModel" "all" "[I", Cond.methodLink RX4 42 yX4_get, Cond.instanceMethod yX4_get, Cond.selects RX4 yX4_get yX4_get, Cond.initialized RX4, Cond.code yX4_get cX4_get 3 (some .int), Cond.methodLink RX4 66 yX4_lookBehind, Cond.static yX4_lookBehind, Cond.code yX4_lookBehind cX4_lookBehind 3 (some .int), Cond.methodLink RX4 46 yX4_isUnderWay, Cond.instanceMethod yX4_isUnderWay, Cond.selects RX4 yX4_isUnderWay yX4_isUnderWay, Cond.code yX4_isUnderWay cX4_isUnderWay 2 (some .boolean), Cond.methodLink RX4 28 yX4_lays, Cond.instanceMethod yX4_lays, Cond.selects RX4 yX4_lays yX4_lays, Cond.code yX4_lays cX4_lays 4 none, Cond.methodLink RX4 50 yX4_more, Cond.instanceMethod yX4_more, Cond.selects RX4 yX4_more yX4_more, Cond.code yX4_more cX4_more 4 none, Cond.methodLink RX4 69 yX4_ends, Cond.instanceMethod yX4_ends, Cond.selects RX4 yX4_ends yX4_ends]
def wsX4_happens_r2 : List Cond := [Cond.code yX4_ends cX4_ends 3 none, Cond.methodLink RX4 59 yX4_isBlocked, Cond.instanceMethod yX4_isBlocked, Cond.selects RX4 yX4_isBlocked yX4_isBlocked, Cond.code yX4_isBlocked cX4_isBlocked 2 (some .boolean), Cond.methodLink RX4 62 yX4_counts, Cond.instanceMethod yX4_counts, Cond.selects RX4 yX4_counts yX4_counts, Cond.code yX4_counts cX4_counts 4 none, Cond.methodLink RX4 53 yX4_comesIn, Cond.instanceMethod yX4_comesIn, Cond.selects RX4 yX4_comesIn yX4_comesIn, Cond.code yX4_comesIn cX4_comesIn 1 none, Cond.methodLink RX4 56 yX4_goesOut, Cond.instanceMethod yX4_goesOut, Cond.selects RX4 yX4_goesOut yX4_goesOut, Cond.code yX4_goesOut cX4_goesOut 1 none]
def wsX4_happens : List Cond := .code yX4_happens cX4_happens 6 (some .int) :: ((wsX4_happens_r1 ++ wsX4_happens_r2) ++ wsX40)
def wsX4_blocked : List Cond := .code yX4_blocked cX4_blocked 3 (some .int) :: ([.methodLink RX4 59 yX4_isBlocked, .instanceMethod yX4_isBlocked, .selects RX4 yX4_isBlocked yX4_isBlocked, .initialized RX4, .code yX4_isBlocked cX4_isBlocked 2 (some .boolean), .fieldLink RX4 7 "BeamTurnstilesModel" "all" "[I", .methodLink RX4 46 yX4_isUnderWay, .instanceMethod yX4_isUnderWay, .selects RX4 yX4_isUnderWay yX4_isUnderWay, .code yX4_isUnderWay cX4_isUnderWay 2 (some .boolean), .methodLink RX4 42 yX4_get, .instanceMethod yX4_get, .selects RX4 yX4_get yX4_get, .code yX4_get cX4_get 3 (some .int)] ++ wsX40)
def wsX4_allOf : List Cond := .code yX4_allOf cX4_allOf 4 (some .int) :: ([.methodLink RX4 42 yX4_get, .instanceMethod yX4_get, .selects RX4 yX4_get yX4_get, .initialized RX4, .code yX4_get cX4_get 3 (some .int), .fieldLink RX4 7 "BeamTurnstilesModel" "all" "[I"] ++ wsX40)
def wsX4_isSetting : List Cond := .code yX4_isSetting cX4_isSetting 2 (some .boolean) :: ([.constantLong RX4 72 (200), .constantLong RX4 74 (50), .constantLong RX4 76 (500), .methodLink RX4 38 yX4_in, .static yX4_in, .initialized RX4, .code yX4_in cX4_in 6 (some .boolean)])
def wsX4_set : List Cond := .code yX4_set cX4_set 4 (some .int) :: ([.fieldLink RX4 7 "BeamTurnstilesModel" "all" "[I", .methodLink RX4 78 yX4_isSetting, .static yX4_isSetting, .initialized RX4, .code yX4_isSetting cX4_isSetting 2 (some .boolean), .constantLong RX4 72 (200), .constantLong RX4 74 (50), .constantLong RX4 76 (500), .methodLink RX4 38 yX4_in, .static yX4_in, .code yX4_in cX4_in 6 (some .boolean), .methodLink RX4 82 yX4_changes, .instanceMethod yX4_changes, .selects RX4 yX4_changes yX4_changes, .code yX4_changes cX4_changes 2 none, .fieldLink RX4 32 "BeamTurnstilesModel" "historyLong" "I", .fieldLink RX4 16 "BeamTurnstilesModel" "history" "[I"] ++ wsX40)
def wsX4_event_r1 : List Cond := [Cond.constantLong RX4 88 (2), Cond.methodLink RX4 85 yX4_isGate, Cond.static yX4_isGate, Cond.initialized RX4, Cond.code yX4_isGate cX4_isGate 1 (some .boolean), Cond.constantLong RX4 36 (5), Cond.methodLink RX4 38 yX4_in, Cond.static yX4_in, Cond.code yX4_in cX4_in 6 (some .boolean), Cond.methodLink RX4 82 yX4_changes, Cond.instanceMethod yX4_changes, Cond.selects RX4 yX4_changes yX4_changes, Cond.code yX4_changes cX4_changes 2 none, Cond.fieldLink RX4 32 "BeamTurnstilesModel" "historyLong" "I", Cond.fieldLink RX4 16 "BeamTurnstilesModel" "history" "[I", Cond.fieldLink RX4 7 "BeamTurnstilesModel" "all" "[I", Cond.methodLink RX4 90 yX4_happens, Cond.instanceMethod yX4_happens, Cond.selects RX4 yX4_happens yX4_happens, Cond.code yX4_happens cX4_happens 6 (some .int), Cond.methodLink RX4 42 yX4_get, Cond.instanceMethod yX4_get, Cond.selects RX4 yX4_get yX4_get, Cond.code yX4_get cX4_get 3 (some .int)]
def wsX4_event_r2 : List Cond := [Cond.methodLink RX4 66 yX4_lookBehind, Cond.static yX4_lookBehind, Cond.code yX4_lookBehind cX4_lookBehind 3 (some .int), Cond.methodLink RX4 46 yX4_isUnderWay, Cond.instanceMethod yX4_isUnderWay, Cond.selects RX4 yX4_isUnderWay yX4_isUnderWay, Cond.code yX4_isUnderWay cX4_isUnderWay 2 (some .boolean), Cond.methodLink RX4 28 yX4_lays, Cond.instanceMethod yX4_lays, Cond.selects RX4 yX4_lays yX4_lays, Cond.code yX4_lays cX4_lays 4 none, Cond.methodLink RX4 50 yX4_more, Cond.instanceMethod yX4_more, Cond.selects RX4 yX4_more yX4_more, Cond.code yX4_more cX4_more 4 none, Cond.methodLink RX4 69 yX4_ends, Cond.instanceMethod yX4_ends, Cond.selects RX4 yX4_ends yX4_ends, Cond.code yX4_ends cX4_ends 3 none, Cond.methodLink RX4 59 yX4_isBlocked, Cond.instanceMethod yX4_isBlocked, Cond.selects RX4 yX4_isBlocked yX4_isBlocked, Cond.code yX4_isBlocked cX4_isBlocked 2 (some .boolean), Cond.methodLink RX4 62 yX4_counts]
def wsX4_event_r3 : List Cond := [Cond.instanceMethod yX4_counts, Cond.selects RX4 yX4_counts yX4_counts, Cond.code yX4_counts cX4_counts 4 none, Cond.methodLink RX4 53 yX4_comesIn, Cond.instanceMethod yX4_comesIn, Cond.selects RX4 yX4_comesIn yX4_comesIn, Cond.code yX4_comesIn cX4_comesIn 1 none, Cond.methodLink RX4 56 yX4_goesOut, Cond.instanceMethod yX4_goesOut, Cond.selects RX4 yX4_goesOut yX4_goesOut, Cond.code yX4_goesOut cX4_goesOut 1 none]
def wsX4_event : List Cond := .code yX4_event cX4_event 4 (some .int) :: ((wsX4_event_r1 ++ (wsX4_event_r2 ++ wsX4_event_r3)) ++ wsX40)
def wsX4_bits : List Cond := .code yX4_bits cX4_bits 3 (some .int) :: ([])
def wsX4_pass_r1 : List Cond := [Cond.constantLong RX4 93 (999), Cond.fieldLink RX4 7 "BeamTurnstilesModel" "all" "[I", Cond.constant RX4 95 (99999), Cond.methodLink RX4 38 yX4_in, Cond.static yX4_in, Cond.initialized RX4, Cond.code yX4_in cX4_in 6 (some .boolean), Cond.methodLink RX4 82 yX4_changes, Cond.instanceMethod yX4_changes, Cond.selects RX4 yX4_changes yX4_changes, Cond.code yX4_changes cX4_changes 2 none, Cond.fieldLink RX4 32 "BeamTurnstilesModel" "historyLong" "I", Cond.fieldLink RX4 16 "BeamTurnstilesModel" "history" "[I", Cond.methodLink RX4 96 yX4_blocked, Cond.instanceMethod yX4_blocked, Cond.selects RX4 yX4_blocked yX4_blocked, Cond.code yX4_blocked cX4_blocked 3 (some .int), Cond.methodLink RX4 59 yX4_isBlocked, Cond.instanceMethod yX4_isBlocked, Cond.selects RX4 yX4_isBlocked yX4_isBlocked, Cond.code yX4_isBlocked cX4_isBlocked 2 (some .boolean), Cond.methodLink RX4 46 yX4_isUnderWay, Cond.instanceMethod yX4_isUnderWay, Cond.selects RX4 yX4_isUnderWay yX4_isUnderWay]
def wsX4_pass_r2 : List Cond := [Cond.code yX4_isUnderWay cX4_isUnderWay 2 (some .boolean), Cond.methodLink RX4 42 yX4_get, Cond.instanceMethod yX4_get, Cond.selects RX4 yX4_get yX4_get, Cond.code yX4_get cX4_get 3 (some .int), Cond.methodLink RX4 100 yX4_bits, Cond.static yX4_bits, Cond.code yX4_bits cX4_bits 3 (some .int)]
def wsX4_pass : List Cond := .code yX4_pass cX4_pass 2 (some .int) :: ((wsX4_pass_r1 ++ wsX4_pass_r2) ++ wsX40)
def wsX4_correct : List Cond := .code yX4_correct cX4_correct 3 (some .int) :: ([.constantLong RX4 93 (999), .fieldLink RX4 7 "BeamTurnstilesModel" "all" "[I", .methodLink RX4 38 yX4_in, .static yX4_in, .initialized RX4, .code yX4_in cX4_in 6 (some .boolean), .methodLink RX4 82 yX4_changes, .instanceMethod yX4_changes, .selects RX4 yX4_changes yX4_changes, .code yX4_changes cX4_changes 2 none, .fieldLink RX4 32 "BeamTurnstilesModel" "historyLong" "I", .fieldLink RX4 16 "BeamTurnstilesModel" "history" "[I"] ++ wsX40)
def wsX4_clear_r1 : List Cond := [Cond.methodLink RX4 85 yX4_isGate, Cond.static yX4_isGate, Cond.initialized RX4, Cond.code yX4_isGate cX4_isGate 1 (some .boolean), Cond.constantLong RX4 36 (5), Cond.methodLink RX4 38 yX4_in, Cond.static yX4_in, Cond.code yX4_in cX4_in 6 (some .boolean), Cond.methodLink RX4 46 yX4_isUnderWay, Cond.instanceMethod yX4_isUnderWay, Cond.selects RX4 yX4_isUnderWay yX4_isUnderWay, Cond.code yX4_isUnderWay cX4_isUnderWay 2 (some .boolean), Cond.methodLink RX4 42 yX4_get, Cond.instanceMethod yX4_get, Cond.selects RX4 yX4_get yX4_get, Cond.code yX4_get cX4_get 3 (some .int), Cond.fieldLink RX4 7 "BeamTurnstilesModel" "all" "[I", Cond.methodLink RX4 82 yX4_changes, Cond.instanceMethod yX4_changes, Cond.selects RX4 yX4_changes yX4_changes, Cond.code yX4_changes cX4_changes 2 none, Cond.fieldLink RX4 32 "BeamTurnstilesModel" "historyLong" "I", Cond.fieldLink RX4 16 "BeamTurnstilesModel" "history" "[I", Cond.methodLink RX4 69 yX4_ends]
def wsX4_clear_r2 : List Cond := [Cond.instanceMethod yX4_ends, Cond.selects RX4 yX4_ends yX4_ends, Cond.code yX4_ends cX4_ends 3 none, Cond.methodLink RX4 50 yX4_more, Cond.instanceMethod yX4_more, Cond.selects RX4 yX4_more yX4_more, Cond.code yX4_more cX4_more 4 none, Cond.methodLink RX4 59 yX4_isBlocked, Cond.instanceMethod yX4_isBlocked, Cond.selects RX4 yX4_isBlocked yX4_isBlocked, Cond.code yX4_isBlocked cX4_isBlocked 2 (some .boolean), Cond.methodLink RX4 62 yX4_counts, Cond.instanceMethod yX4_counts, Cond.selects RX4 yX4_counts yX4_counts, Cond.code yX4_counts cX4_counts 4 none, Cond.methodLink RX4 28 yX4_lays, Cond.instanceMethod yX4_lays, Cond.selects RX4 yX4_lays yX4_lays, Cond.code yX4_lays cX4_lays 4 none, Cond.methodLink RX4 53 yX4_comesIn, Cond.instanceMethod yX4_comesIn, Cond.selects RX4 yX4_comesIn yX4_comesIn, Cond.code yX4_comesIn cX4_comesIn 1 none, Cond.methodLink RX4 56 yX4_goesOut]
def wsX4_clear_r3 : List Cond := [Cond.instanceMethod yX4_goesOut, Cond.selects RX4 yX4_goesOut yX4_goesOut, Cond.code yX4_goesOut cX4_goesOut 1 none]
def wsX4_clear : List Cond := .code yX4_clear cX4_clear 3 (some .int) :: ((wsX4_clear_r1 ++ (wsX4_clear_r2 ++ wsX4_clear_r3)) ++ wsX40)
def wsX4_placeOf : List Cond := .code yX4_placeOf cX4_placeOf 2 (some .int) :: ([.methodLink RX4 46 yX4_isUnderWay, .instanceMethod yX4_isUnderWay, .selects RX4 yX4_isUnderWay yX4_isUnderWay, .initialized RX4, .code yX4_isUnderWay cX4_isUnderWay 2 (some .boolean), .methodLink RX4 42 yX4_get, .instanceMethod yX4_get, .selects RX4 yX4_get yX4_get, .code yX4_get cX4_get 3 (some .int), .fieldLink RX4 7 "BeamTurnstilesModel" "all" "[I"] ++ wsX40)
def wsX4_gate_r1 : List Cond := [Cond.methodLink RX4 85 yX4_isGate, Cond.static yX4_isGate, Cond.initialized RX4, Cond.code yX4_isGate cX4_isGate 1 (some .boolean), Cond.constantLong RX4 36 (5), Cond.methodLink RX4 38 yX4_in, Cond.static yX4_in, Cond.code yX4_in cX4_in 6 (some .boolean), Cond.methodLink RX4 42 yX4_get, Cond.instanceMethod yX4_get, Cond.selects RX4 yX4_get yX4_get, Cond.code yX4_get cX4_get 3 (some .int), Cond.fieldLink RX4 7 "BeamTurnstilesModel" "all" "[I", Cond.methodLink RX4 104 yX4_placeOf, Cond.instanceMethod yX4_placeOf, Cond.selects RX4 yX4_placeOf yX4_placeOf, Cond.code yX4_placeOf cX4_placeOf 2 (some .int), Cond.methodLink RX4 46 yX4_isUnderWay, Cond.instanceMethod yX4_isUnderWay, Cond.selects RX4 yX4_isUnderWay yX4_isUnderWay, Cond.code yX4_isUnderWay cX4_isUnderWay 2 (some .boolean), Cond.methodLink RX4 59 yX4_isBlocked, Cond.instanceMethod yX4_isBlocked, Cond.selects RX4 yX4_isBlocked yX4_isBlocked]
def wsX4_gate_r2 : List Cond := [Cond.code yX4_isBlocked cX4_isBlocked 2 (some .boolean)]
def wsX4_gate : List Cond := .code yX4_gate cX4_gate 3 (some .int) :: ((wsX4_gate_r1 ++ wsX4_gate_r2) ++ wsX40)
def wsX4_underWay : List Cond := .code yX4_underWay cX4_underWay 3 (some .int) :: ([.methodLink RX4 46 yX4_isUnderWay, .instanceMethod yX4_isUnderWay, .selects RX4 yX4_isUnderWay yX4_isUnderWay, .initialized RX4, .code yX4_isUnderWay cX4_isUnderWay 2 (some .boolean), .methodLink RX4 42 yX4_get, .instanceMethod yX4_get, .selects RX4 yX4_get yX4_get, .code yX4_get cX4_get 3 (some .int), .fieldLink RX4 7 "BeamTurnstilesModel" "all" "[I"] ++ wsX40)
def wsX4_count_r1 : List Cond := [Cond.constantLong RX4 107 (7), Cond.fieldLink RX4 7 "BeamTurnstilesModel" "all" "[I", Cond.constantLong RX4 109 (8), Cond.constantLong RX4 111 (13), Cond.fieldLink RX4 119 "BeamTurnstilesModel" "textLong" "I", Cond.fieldLink RX4 32 "BeamTurnstilesModel" "historyLong" "I", Cond.methodLink RX4 38 yX4_in, Cond.static yX4_in, Cond.initialized RX4, Cond.code yX4_in cX4_in 6 (some .boolean), Cond.methodLink RX4 113 yX4_allOf, Cond.instanceMethod yX4_allOf, Cond.selects RX4 yX4_allOf yX4_allOf, Cond.code yX4_allOf cX4_allOf 4 (some .int), Cond.methodLink RX4 42 yX4_get, Cond.instanceMethod yX4_get, Cond.selects RX4 yX4_get yX4_get, Cond.code yX4_get cX4_get 3 (some .int), Cond.methodLink RX4 96 yX4_blocked, Cond.instanceMethod yX4_blocked, Cond.selects RX4 yX4_blocked yX4_blocked, Cond.code yX4_blocked cX4_blocked 3 (some .int), Cond.methodLink RX4 59 yX4_isBlocked, Cond.instanceMethod yX4_isBlocked]
def wsX4_count_r2 : List Cond := [Cond.selects RX4 yX4_isBlocked yX4_isBlocked, Cond.code yX4_isBlocked cX4_isBlocked 2 (some .boolean), Cond.methodLink RX4 46 yX4_isUnderWay, Cond.instanceMethod yX4_isUnderWay, Cond.selects RX4 yX4_isUnderWay yX4_isUnderWay, Cond.code yX4_isUnderWay cX4_isUnderWay 2 (some .boolean), Cond.methodLink RX4 116 yX4_underWay, Cond.instanceMethod yX4_underWay, Cond.selects RX4 yX4_underWay yX4_underWay, Cond.code yX4_underWay cX4_underWay 3 (some .int)]
def wsX4_count : List Cond := .code yX4_count cX4_count 2 (some .int) :: ((wsX4_count_r1 ++ wsX4_count_r2) ++ wsX40)
def wsX4_through : List Cond := .code yX4_through cX4_through 2 (some .int) :: ([.methodLink RX4 42 yX4_get, .instanceMethod yX4_get, .selects RX4 yX4_get yX4_get, .initialized RX4, .code yX4_get cX4_get 3 (some .int), .fieldLink RX4 7 "BeamTurnstilesModel" "all" "[I"] ++ wsX40)
def wsX4_mean : List Cond := .code yX4_mean cX4_mean 2 (some .int) :: ([.methodLink RX4 85 yX4_isGate, .static yX4_isGate, .initialized RX4, .code yX4_isGate cX4_isGate 1 (some .boolean), .constantLong RX4 36 (5), .methodLink RX4 38 yX4_in, .static yX4_in, .code yX4_in cX4_in 6 (some .boolean), .methodLink RX4 122 yX4_through, .instanceMethod yX4_through, .selects RX4 yX4_through yX4_through, .code yX4_through cX4_through 2 (some .int), .methodLink RX4 42 yX4_get, .instanceMethod yX4_get, .selects RX4 yX4_get yX4_get, .code yX4_get cX4_get 3 (some .int), .fieldLink RX4 7 "BeamTurnstilesModel" "all" "[I"] ++ wsX40)
def wsX4_busiest : List Cond := .code yX4_busiest cX4_busiest 4 (some .int) :: ([.methodLink RX4 122 yX4_through, .instanceMethod yX4_through, .selects RX4 yX4_through yX4_through, .initialized RX4, .code yX4_through cX4_through 2 (some .int), .methodLink RX4 42 yX4_get, .instanceMethod yX4_get, .selects RX4 yX4_get yX4_get, .code yX4_get cX4_get 3 (some .int), .fieldLink RX4 7 "BeamTurnstilesModel" "all" "[I"] ++ wsX40)
def wsX4_isHere : List Cond := .code yX4_isHere cX4_isHere 3 (some .boolean) :: ([.fieldLink RX4 147 "BeamTurnstilesModel" "spot" "I", .fieldLink RX4 119 "BeamTurnstilesModel" "textLong" "I", .fieldLink RX4 25 "BeamTurnstilesModel" "text" "[I", .methodLink RX4 38 yX4_in, .static yX4_in, .initialized RX4, .code yX4_in cX4_in 6 (some .boolean)] ++ wsX40)
def wsX4_takesOne : List Cond := .code yX4_takesOne cX4_takesOne 3 (some .boolean) :: ([.fieldLink RX4 147 "BeamTurnstilesModel" "spot" "I", .methodLink RX4 150 yX4_isHere, .instanceMethod yX4_isHere, .selects RX4 yX4_isHere yX4_isHere, .initialized RX4, .code yX4_isHere cX4_isHere 3 (some .boolean), .fieldLink RX4 119 "BeamTurnstilesModel" "textLong" "I", .fieldLink RX4 25 "BeamTurnstilesModel" "text" "[I", .methodLink RX4 38 yX4_in, .static yX4_in, .code yX4_in cX4_in 6 (some .boolean)] ++ wsX40)
def wsX4_readsTicks : List Cond := .code yX4_readsTicks cX4_readsTicks 1 (some .boolean) :: ([.fieldLink RX4 25 "BeamTurnstilesModel" "text" "[I", .fieldLink RX4 147 "BeamTurnstilesModel" "spot" "I", .fieldLink RX4 156 "BeamTurnstilesModel" "number" "I", .methodLink RX4 150 yX4_isHere, .instanceMethod yX4_isHere, .selects RX4 yX4_isHere yX4_isHere, .initialized RX4, .code yX4_isHere cX4_isHere 3 (some .boolean), .fieldLink RX4 119 "BeamTurnstilesModel" "textLong" "I", .methodLink RX4 38 yX4_in, .static yX4_in, .code yX4_in cX4_in 6 (some .boolean)] ++ wsX40)
def wsX4_beam : List Cond := .code yX4_beam cX4_beam 1 (some .int) :: ([.methodLink RX4 153 yX4_takesOne, .instanceMethod yX4_takesOne, .selects RX4 yX4_takesOne yX4_takesOne, .initialized RX4, .code yX4_takesOne cX4_takesOne 3 (some .boolean), .fieldLink RX4 147 "BeamTurnstilesModel" "spot" "I", .methodLink RX4 150 yX4_isHere, .instanceMethod yX4_isHere, .selects RX4 yX4_isHere yX4_isHere, .code yX4_isHere cX4_isHere 3 (some .boolean), .fieldLink RX4 119 "BeamTurnstilesModel" "textLong" "I", .fieldLink RX4 25 "BeamTurnstilesModel" "text" "[I", .methodLink RX4 38 yX4_in, .static yX4_in, .code yX4_in cX4_in 6 (some .boolean)] ++ wsX40)
def wsX4_readsEvent : List Cond := .code yX4_readsEvent cX4_readsEvent 1 (some .boolean) :: ([.fieldLink RX4 147 "BeamTurnstilesModel" "spot" "I", .methodLink RX4 153 yX4_takesOne, .instanceMethod yX4_takesOne, .selects RX4 yX4_takesOne yX4_takesOne, .initialized RX4, .code yX4_takesOne cX4_takesOne 3 (some .boolean), .methodLink RX4 150 yX4_isHere, .instanceMethod yX4_isHere, .selects RX4 yX4_isHere yX4_isHere, .code yX4_isHere cX4_isHere 3 (some .boolean), .fieldLink RX4 119 "BeamTurnstilesModel" "textLong" "I", .fieldLink RX4 25 "BeamTurnstilesModel" "text" "[I", .methodLink RX4 38 yX4_in, .static yX4_in, .code yX4_in cX4_in 6 (some .boolean), .methodLink RX4 159 yX4_readsTicks, .instanceMethod yX4_readsTicks, .selects RX4 yX4_readsTicks yX4_readsTicks, .code yX4_readsTicks cX4_readsTicks 1 (some .boolean), .fieldLink RX4 156 "BeamTurnstilesModel" "number" "I", .methodLink RX4 163 yX4_beam, .instanceMethod yX4_beam, .selects RX4 yX4_beam yX4_beam, .code yX4_beam cX4_beam 1 (some .int)] ++ wsX40)
def wsX4_fault_r1 : List Cond := [Cond.fieldLink RX4 147 "BeamTurnstilesModel" "spot" "I", Cond.fieldLink RX4 119 "BeamTurnstilesModel" "textLong" "I", Cond.methodLink RX4 166 yX4_readsEvent, Cond.instanceMethod yX4_readsEvent, Cond.selects RX4 yX4_readsEvent yX4_readsEvent, Cond.initialized RX4, Cond.code yX4_readsEvent cX4_readsEvent 1 (some .boolean), Cond.methodLink RX4 153 yX4_takesOne, Cond.instanceMethod yX4_takesOne, Cond.selects RX4 yX4_takesOne yX4_takesOne, Cond.code yX4_takesOne cX4_takesOne 3 (some .boolean), Cond.methodLink RX4 150 yX4_isHere, Cond.instanceMethod yX4_isHere, Cond.selects RX4 yX4_isHere yX4_isHere, Cond.code yX4_isHere cX4_isHere 3 (some .boolean), Cond.fieldLink RX4 25 "BeamTurnstilesModel" "text" "[I", Cond.methodLink RX4 38 yX4_in, Cond.static yX4_in, Cond.code yX4_in cX4_in 6 (some .boolean), Cond.methodLink RX4 159 yX4_readsTicks, Cond.instanceMethod yX4_readsTicks, Cond.selects RX4 yX4_readsTicks yX4_readsTicks, Cond.code yX4_readsTicks cX4_readsTicks 1 (some .boolean), Cond.fieldLink RX4 156 "BeamTurnstilesModel" "number" "I"]
def wsX4_fault_r2 : List Cond := [Cond.methodLink RX4 163 yX4_beam, Cond.instanceMethod yX4_beam, Cond.selects RX4 yX4_beam yX4_beam, Cond.code yX4_beam cX4_beam 1 (some .int)]
def wsX4_fault : List Cond := .code yX4_fault cX4_fault 2 (some .int) :: ((wsX4_fault_r1 ++ wsX4_fault_r2) ++ wsX40)
def wsX4_reads_r1 : List Cond := [Cond.fieldLink RX4 147 "BeamTurnstilesModel" "spot" "I", Cond.fieldLink RX4 7 "BeamTurnstilesModel" "all" "[I", Cond.fieldLink RX4 156 "BeamTurnstilesModel" "number" "I", Cond.constant RX4 95 (99999), Cond.fieldLink RX4 25 "BeamTurnstilesModel" "text" "[I", Cond.methodLink RX4 153 yX4_takesOne, Cond.instanceMethod yX4_takesOne, Cond.selects RX4 yX4_takesOne yX4_takesOne, Cond.initialized RX4, Cond.code yX4_takesOne cX4_takesOne 3 (some .boolean), Cond.methodLink RX4 150 yX4_isHere, Cond.instanceMethod yX4_isHere, Cond.selects RX4 yX4_isHere yX4_isHere, Cond.code yX4_isHere cX4_isHere 3 (some .boolean), Cond.fieldLink RX4 119 "BeamTurnstilesModel" "textLong" "I", Cond.methodLink RX4 38 yX4_in, Cond.static yX4_in, Cond.code yX4_in cX4_in 6 (some .boolean), Cond.methodLink RX4 159 yX4_readsTicks, Cond.instanceMethod yX4_readsTicks, Cond.selects RX4 yX4_readsTicks yX4_readsTicks, Cond.code yX4_readsTicks cX4_readsTicks 1 (some .boolean), Cond.methodLink RX4 163 yX4_beam, Cond.instanceMethod yX4_beam]
def wsX4_reads_r2 : List Cond := [Cond.selects RX4 yX4_beam yX4_beam, Cond.code yX4_beam cX4_beam 1 (some .int), Cond.methodLink RX4 90 yX4_happens, Cond.instanceMethod yX4_happens, Cond.selects RX4 yX4_happens yX4_happens, Cond.code yX4_happens cX4_happens 6 (some .int), Cond.methodLink RX4 42 yX4_get, Cond.instanceMethod yX4_get, Cond.selects RX4 yX4_get yX4_get, Cond.code yX4_get cX4_get 3 (some .int), Cond.methodLink RX4 66 yX4_lookBehind, Cond.static yX4_lookBehind, Cond.code yX4_lookBehind cX4_lookBehind 3 (some .int), Cond.methodLink RX4 46 yX4_isUnderWay, Cond.instanceMethod yX4_isUnderWay, Cond.selects RX4 yX4_isUnderWay yX4_isUnderWay, Cond.code yX4_isUnderWay cX4_isUnderWay 2 (some .boolean), Cond.methodLink RX4 28 yX4_lays, Cond.instanceMethod yX4_lays, Cond.selects RX4 yX4_lays yX4_lays, Cond.code yX4_lays cX4_lays 4 none, Cond.methodLink RX4 50 yX4_more, Cond.instanceMethod yX4_more, Cond.selects RX4 yX4_more yX4_more]
def wsX4_reads_r3 : List Cond := [Cond.code yX4_more cX4_more 4 none, Cond.methodLink RX4 69 yX4_ends, Cond.instanceMethod yX4_ends, Cond.selects RX4 yX4_ends yX4_ends, Cond.code yX4_ends cX4_ends 3 none, Cond.methodLink RX4 59 yX4_isBlocked, Cond.instanceMethod yX4_isBlocked, Cond.selects RX4 yX4_isBlocked yX4_isBlocked, Cond.code yX4_isBlocked cX4_isBlocked 2 (some .boolean), Cond.methodLink RX4 62 yX4_counts, Cond.instanceMethod yX4_counts, Cond.selects RX4 yX4_counts yX4_counts, Cond.code yX4_counts cX4_counts 4 none, Cond.methodLink RX4 53 yX4_comesIn, Cond.instanceMethod yX4_comesIn, Cond.selects RX4 yX4_comesIn yX4_comesIn, Cond.code yX4_comesIn cX4_comesIn 1 none, Cond.methodLink RX4 56 yX4_goesOut, Cond.instanceMethod yX4_goesOut, Cond.selects RX4 yX4_goesOut yX4_goesOut, Cond.code yX4_goesOut cX4_goesOut 1 none]
def wsX4_reads : List Cond := .code yX4_reads cX4_reads 5 (some .int) :: ((wsX4_reads_r1 ++ (wsX4_reads_r2 ++ wsX4_reads_r3)) ++ wsX40)
def wsX4_ifRead_r1 : List Cond := [Cond.constantLong RX4 36 (5), Cond.fieldLink RX4 7 "BeamTurnstilesModel" "all" "[I", Cond.methodLink RX4 125 yX4_fault, Cond.instanceMethod yX4_fault, Cond.selects RX4 yX4_fault yX4_fault, Cond.initialized RX4, Cond.code yX4_fault cX4_fault 2 (some .int), Cond.fieldLink RX4 147 "BeamTurnstilesModel" "spot" "I", Cond.fieldLink RX4 119 "BeamTurnstilesModel" "textLong" "I", Cond.methodLink RX4 166 yX4_readsEvent, Cond.instanceMethod yX4_readsEvent, Cond.selects RX4 yX4_readsEvent yX4_readsEvent, Cond.code yX4_readsEvent cX4_readsEvent 1 (some .boolean), Cond.methodLink RX4 153 yX4_takesOne, Cond.instanceMethod yX4_takesOne, Cond.selects RX4 yX4_takesOne yX4_takesOne, Cond.code yX4_takesOne cX4_takesOne 3 (some .boolean), Cond.methodLink RX4 150 yX4_isHere, Cond.instanceMethod yX4_isHere, Cond.selects RX4 yX4_isHere yX4_isHere, Cond.code yX4_isHere cX4_isHere 3 (some .boolean), Cond.fieldLink RX4 25 "BeamTurnstilesModel" "text" "[I", Cond.methodLink RX4 38 yX4_in, Cond.static yX4_in]
def wsX4_ifRead_r2 : List Cond := [Cond.code yX4_in cX4_in 6 (some .boolean), Cond.methodLink RX4 159 yX4_readsTicks, Cond.instanceMethod yX4_readsTicks, Cond.selects RX4 yX4_readsTicks yX4_readsTicks, Cond.code yX4_readsTicks cX4_readsTicks 1 (some .boolean), Cond.fieldLink RX4 156 "BeamTurnstilesModel" "number" "I", Cond.methodLink RX4 163 yX4_beam, Cond.instanceMethod yX4_beam, Cond.selects RX4 yX4_beam yX4_beam, Cond.code yX4_beam cX4_beam 1 (some .int), Cond.methodLink RX4 113 yX4_allOf, Cond.instanceMethod yX4_allOf, Cond.selects RX4 yX4_allOf yX4_allOf, Cond.code yX4_allOf cX4_allOf 4 (some .int), Cond.methodLink RX4 42 yX4_get, Cond.instanceMethod yX4_get, Cond.selects RX4 yX4_get yX4_get, Cond.code yX4_get cX4_get 3 (some .int), Cond.methodLink RX4 128 yX4_keeps, Cond.instanceMethod yX4_keeps, Cond.selects RX4 yX4_keeps yX4_keeps, Cond.code yX4_keeps cX4_keeps 2 none, Cond.fieldLink RX4 13 "BeamTurnstilesModel" "kept" "[I", Cond.methodLink RX4 131 yX4_reads]
def wsX4_ifRead_r3 : List Cond := [Cond.instanceMethod yX4_reads, Cond.selects RX4 yX4_reads yX4_reads, Cond.code yX4_reads cX4_reads 5 (some .int), Cond.constant RX4 95 (99999), Cond.methodLink RX4 90 yX4_happens, Cond.instanceMethod yX4_happens, Cond.selects RX4 yX4_happens yX4_happens, Cond.code yX4_happens cX4_happens 6 (some .int), Cond.methodLink RX4 66 yX4_lookBehind, Cond.static yX4_lookBehind, Cond.code yX4_lookBehind cX4_lookBehind 3 (some .int), Cond.methodLink RX4 46 yX4_isUnderWay, Cond.instanceMethod yX4_isUnderWay, Cond.selects RX4 yX4_isUnderWay yX4_isUnderWay, Cond.code yX4_isUnderWay cX4_isUnderWay 2 (some .boolean), Cond.methodLink RX4 28 yX4_lays, Cond.instanceMethod yX4_lays, Cond.selects RX4 yX4_lays yX4_lays, Cond.code yX4_lays cX4_lays 4 none, Cond.methodLink RX4 50 yX4_more, Cond.instanceMethod yX4_more, Cond.selects RX4 yX4_more yX4_more, Cond.code yX4_more cX4_more 4 none, Cond.methodLink RX4 69 yX4_ends]
def wsX4_ifRead_r4 : List Cond := [Cond.instanceMethod yX4_ends, Cond.selects RX4 yX4_ends yX4_ends, Cond.code yX4_ends cX4_ends 3 none, Cond.methodLink RX4 59 yX4_isBlocked, Cond.instanceMethod yX4_isBlocked, Cond.selects RX4 yX4_isBlocked yX4_isBlocked, Cond.code yX4_isBlocked cX4_isBlocked 2 (some .boolean), Cond.methodLink RX4 62 yX4_counts, Cond.instanceMethod yX4_counts, Cond.selects RX4 yX4_counts yX4_counts, Cond.code yX4_counts cX4_counts 4 none, Cond.methodLink RX4 53 yX4_comesIn, Cond.instanceMethod yX4_comesIn, Cond.selects RX4 yX4_comesIn yX4_comesIn, Cond.code yX4_comesIn cX4_comesIn 1 none, Cond.methodLink RX4 56 yX4_goesOut, Cond.instanceMethod yX4_goesOut, Cond.selects RX4 yX4_goesOut yX4_goesOut, Cond.code yX4_goesOut cX4_goesOut 1 none, Cond.methodLink RX4 134 yX4_comesBack, Cond.instanceMethod yX4_comesBack, Cond.selects RX4 yX4_comesBack yX4_comesBack, Cond.code yX4_comesBack cX4_comesBack 2 none]
def wsX4_ifRead : List Cond := .code yX4_ifRead cX4_ifRead 5 (some .int) :: ((wsX4_ifRead_r1 ++ (wsX4_ifRead_r2 ++ (wsX4_ifRead_r3 ++ wsX4_ifRead_r4))) ++ wsX40)
def wsX4_eventsTo : List Cond := .code yX4_eventsTo cX4_eventsTo 5 (some .int) :: ([.constantLong RX4 88 (2), .methodLink RX4 85 yX4_isGate, .static yX4_isGate, .initialized RX4, .code yX4_isGate cX4_isGate 1 (some .boolean), .constantLong RX4 36 (5), .methodLink RX4 38 yX4_in, .static yX4_in, .code yX4_in cX4_in 6 (some .boolean), .methodLink RX4 46 yX4_isUnderWay, .instanceMethod yX4_isUnderWay, .selects RX4 yX4_isUnderWay yX4_isUnderWay, .code yX4_isUnderWay cX4_isUnderWay 2 (some .boolean), .methodLink RX4 42 yX4_get, .instanceMethod yX4_get, .selects RX4 yX4_get yX4_get, .code yX4_get cX4_get 3 (some .int), .fieldLink RX4 7 "BeamTurnstilesModel" "all" "[I"] ++ wsX40)
def wsX4_untilBlocked : List Cond := .code yX4_untilBlocked cX4_untilBlocked 5 (some .int) :: ([.fieldLink RX4 7 "BeamTurnstilesModel" "all" "[I", .methodLink RX4 42 yX4_get, .instanceMethod yX4_get, .selects RX4 yX4_get yX4_get, .initialized RX4, .code yX4_get cX4_get 3 (some .int), .methodLink RX4 46 yX4_isUnderWay, .instanceMethod yX4_isUnderWay, .selects RX4 yX4_isUnderWay yX4_isUnderWay, .code yX4_isUnderWay cX4_isUnderWay 2 (some .boolean)] ++ wsX40)
def wsX4_charactersOf : List Cond := .code yX4_charactersOf cX4_charactersOf 5 (some .int) :: ([.constantLong RX4 137 (255), .constantLong RX4 139 (33), .constantLong RX4 141 (126), .methodLink RX4 38 yX4_in, .static yX4_in, .initialized RX4, .code yX4_in cX4_in 6 (some .boolean)])
def wsX4_put : List Cond := .code yX4_put cX4_put 5 (some .int) :: ([.fieldLink RX4 119 "BeamTurnstilesModel" "textLong" "I", .fieldLink RX4 25 "BeamTurnstilesModel" "text" "[I", .constantLong RX4 137 (255), .methodLink RX4 143 yX4_charactersOf, .static yX4_charactersOf, .initialized RX4, .code yX4_charactersOf cX4_charactersOf 5 (some .int), .constantLong RX4 139 (33), .constantLong RX4 141 (126), .methodLink RX4 38 yX4_in, .static yX4_in, .code yX4_in cX4_in 6 (some .boolean)] ++ wsX40)
def wsX4_wipe : List Cond := .code yX4_wipe cX4_wipe 2 (some .int) :: ([.fieldLink RX4 119 "BeamTurnstilesModel" "textLong" "I"] ++ wsX40)
def wsX4_read_r1 : List Cond := [Cond.fieldLink RX4 119 "BeamTurnstilesModel" "textLong" "I", Cond.methodLink RX4 125 yX4_fault, Cond.instanceMethod yX4_fault, Cond.selects RX4 yX4_fault yX4_fault, Cond.initialized RX4, Cond.code yX4_fault cX4_fault 2 (some .int), Cond.fieldLink RX4 147 "BeamTurnstilesModel" "spot" "I", Cond.methodLink RX4 166 yX4_readsEvent, Cond.instanceMethod yX4_readsEvent, Cond.selects RX4 yX4_readsEvent yX4_readsEvent, Cond.code yX4_readsEvent cX4_readsEvent 1 (some .boolean), Cond.methodLink RX4 153 yX4_takesOne, Cond.instanceMethod yX4_takesOne, Cond.selects RX4 yX4_takesOne yX4_takesOne, Cond.code yX4_takesOne cX4_takesOne 3 (some .boolean), Cond.methodLink RX4 150 yX4_isHere, Cond.instanceMethod yX4_isHere, Cond.selects RX4 yX4_isHere yX4_isHere, Cond.code yX4_isHere cX4_isHere 3 (some .boolean), Cond.fieldLink RX4 25 "BeamTurnstilesModel" "text" "[I", Cond.methodLink RX4 38 yX4_in, Cond.static yX4_in, Cond.code yX4_in cX4_in 6 (some .boolean), Cond.methodLink RX4 159 yX4_readsTicks]
def wsX4_read_r2 : List Cond := [Cond.instanceMethod yX4_readsTicks, Cond.selects RX4 yX4_readsTicks yX4_readsTicks, Cond.code yX4_readsTicks cX4_readsTicks 1 (some .boolean), Cond.fieldLink RX4 156 "BeamTurnstilesModel" "number" "I", Cond.methodLink RX4 163 yX4_beam, Cond.instanceMethod yX4_beam, Cond.selects RX4 yX4_beam yX4_beam, Cond.code yX4_beam cX4_beam 1 (some .int), Cond.methodLink RX4 82 yX4_changes, Cond.instanceMethod yX4_changes, Cond.selects RX4 yX4_changes yX4_changes, Cond.code yX4_changes cX4_changes 2 none, Cond.fieldLink RX4 32 "BeamTurnstilesModel" "historyLong" "I", Cond.fieldLink RX4 16 "BeamTurnstilesModel" "history" "[I", Cond.fieldLink RX4 7 "BeamTurnstilesModel" "all" "[I", Cond.methodLink RX4 131 yX4_reads, Cond.instanceMethod yX4_reads, Cond.selects RX4 yX4_reads yX4_reads, Cond.code yX4_reads cX4_reads 5 (some .int), Cond.constant RX4 95 (99999), Cond.methodLink RX4 90 yX4_happens, Cond.instanceMethod yX4_happens, Cond.selects RX4 yX4_happens yX4_happens, Cond.code yX4_happens cX4_happens 6 (some .int)]
def wsX4_read_r3 : List Cond := [Cond.methodLink RX4 42 yX4_get, Cond.instanceMethod yX4_get, Cond.selects RX4 yX4_get yX4_get, Cond.code yX4_get cX4_get 3 (some .int), Cond.methodLink RX4 66 yX4_lookBehind, Cond.static yX4_lookBehind, Cond.code yX4_lookBehind cX4_lookBehind 3 (some .int), Cond.methodLink RX4 46 yX4_isUnderWay, Cond.instanceMethod yX4_isUnderWay, Cond.selects RX4 yX4_isUnderWay yX4_isUnderWay, Cond.code yX4_isUnderWay cX4_isUnderWay 2 (some .boolean), Cond.methodLink RX4 28 yX4_lays, Cond.instanceMethod yX4_lays, Cond.selects RX4 yX4_lays yX4_lays, Cond.code yX4_lays cX4_lays 4 none, Cond.methodLink RX4 50 yX4_more, Cond.instanceMethod yX4_more, Cond.selects RX4 yX4_more yX4_more, Cond.code yX4_more cX4_more 4 none, Cond.methodLink RX4 69 yX4_ends, Cond.instanceMethod yX4_ends, Cond.selects RX4 yX4_ends yX4_ends, Cond.code yX4_ends cX4_ends 3 none, Cond.methodLink RX4 59 yX4_isBlocked]
def wsX4_read_r4 : List Cond := [Cond.instanceMethod yX4_isBlocked, Cond.selects RX4 yX4_isBlocked yX4_isBlocked, Cond.code yX4_isBlocked cX4_isBlocked 2 (some .boolean), Cond.methodLink RX4 62 yX4_counts, Cond.instanceMethod yX4_counts, Cond.selects RX4 yX4_counts yX4_counts, Cond.code yX4_counts cX4_counts 4 none, Cond.methodLink RX4 53 yX4_comesIn, Cond.instanceMethod yX4_comesIn, Cond.selects RX4 yX4_comesIn yX4_comesIn, Cond.code yX4_comesIn cX4_comesIn 1 none, Cond.methodLink RX4 56 yX4_goesOut, Cond.instanceMethod yX4_goesOut, Cond.selects RX4 yX4_goesOut yX4_goesOut, Cond.code yX4_goesOut cX4_goesOut 1 none]
def wsX4_read : List Cond := .code yX4_read cX4_read 2 (some .int) :: ((wsX4_read_r1 ++ (wsX4_read_r2 ++ (wsX4_read_r3 ++ wsX4_read_r4))) ++ wsX40)
def wsX4_undo : List Cond := .code yX4_undo cX4_undo 2 (some .int) :: ([.fieldLink RX4 32 "BeamTurnstilesModel" "historyLong" "I", .fieldLink RX4 7 "BeamTurnstilesModel" "all" "[I", .fieldLink RX4 16 "BeamTurnstilesModel" "history" "[I"] ++ wsX40)
def wsX4_isSlot : List Cond := .code yX4_isSlot cX4_isSlot 1 (some .boolean) :: ([])
def wsX4_save : List Cond := .code yX4_save cX4_save 3 (some .int) :: ([.fieldLink RX4 19 "BeamTurnstilesModel" "slots" "[I", .fieldLink RX4 7 "BeamTurnstilesModel" "all" "[I", .fieldLink RX4 22 "BeamTurnstilesModel" "isSaved" "[I", .methodLink RX4 169 yX4_isSlot, .static yX4_isSlot, .initialized RX4, .code yX4_isSlot cX4_isSlot 1 (some .boolean)] ++ wsX40)
def wsX4_restore : List Cond := .code yX4_restore cX4_restore 3 (some .int) :: ([.fieldLink RX4 22 "BeamTurnstilesModel" "isSaved" "[I", .fieldLink RX4 7 "BeamTurnstilesModel" "all" "[I", .fieldLink RX4 19 "BeamTurnstilesModel" "slots" "[I", .methodLink RX4 169 yX4_isSlot, .static yX4_isSlot, .initialized RX4, .code yX4_isSlot cX4_isSlot 1 (some .boolean), .methodLink RX4 82 yX4_changes, .instanceMethod yX4_changes, .selects RX4 yX4_changes yX4_changes, .code yX4_changes cX4_changes 2 none, .fieldLink RX4 32 "BeamTurnstilesModel" "historyLong" "I", .fieldLink RX4 16 "BeamTurnstilesModel" "history" "[I"] ++ wsX40)
def wsJ9_abs_0f7a4 : List Cond := .code yJ9_abs_0f7a4 cJ9_abs_0f7a4 1 (some .int) :: ([])
def wsJ9_min_7cf53 : List Cond := .code yJ9_min_7cf53 cJ9_min_7cf53 2 (some .int) :: ([])
def wsL_law_r1 : List Cond := [Cond.classLink RL 7 RX3, Cond.instantiable RX3 6, Cond.initialized RX3, Cond.classLink RL 10 RX4, Cond.instantiable RX4 10, Cond.initialized RX4, Cond.constantLong RL 68 (4294967295), Cond.methodLink RL 9 yX3_init, Cond.instanceMethod yX3_init, Cond.code yX3_init cX3_init 1 none, Cond.methodLink RX3 1 objectInit, Cond.instanceMethod objectInit, Cond.code objectInit ⟨#[0xb1]⟩ 1 none, Cond.classLink RX3 7 RX0, Cond.instantiable RX0 1, Cond.initialized RX0, Cond.fieldLink RX3 10 "BeamTurnstiles" "hall" "LBeamTurnstiles$Hall;", Cond.fieldLink RX3 16 "BeamTurnstiles" "trial" "LBeamTurnstiles$Hall;", Cond.classLink RX3 19 RX2, Cond.instantiable RX2 2, Cond.initialized RX2, Cond.fieldLink RX3 22 "BeamTurnstiles" "pad" "LBeamTurnstiles$Pad;", Cond.classLink RX3 26 RX1, Cond.instantiable RX1 3]
def wsL_law_r2 : List Cond := [Cond.initialized RX1, Cond.fieldLink RX3 29 "BeamTurnstiles" "history" "LBeamTurnstiles$History;", Cond.classLink RX3 33 "[[I", Cond.arrayClass .int, Cond.fieldLink RX3 35 "BeamTurnstiles" "slots" "[[I", Cond.arrayClass .boolean, Cond.fieldLink RX3 38 "BeamTurnstiles" "saved" "[Z", Cond.methodLink RX3 9 yX0_init, Cond.instanceMethod yX0_init, Cond.code yX0_init cX0_init 2 none, Cond.methodLink RX0 5 objectInit, Cond.fieldLink RX0 11 "BeamTurnstiles$Hall" "row" "[I", Cond.methodLink RX0 15 yX0_partOf, Cond.static yX0_partOf, Cond.code yX0_partOf cX0_partOf 1 (some .int), Cond.instanceMethod yX2_init, Cond.code yX2_init cX2_init 1 none, Cond.methodLink RX2 3 objectInit, Cond.arrayClass .char, Cond.fieldLink RX2 11 "BeamTurnstiles$Pad" "text" "[C", Cond.fieldLink RX2 15 "BeamTurnstiles$Pad" "length" "I", Cond.instanceMethod yX1_init, Cond.code yX1_init cX1_init 1 none, Cond.methodLink RX1 1 objectInit]
def wsL_law_r3 : List Cond := [Cond.classLink RX1 11 "[[I", Cond.fieldLink RX1 13 "BeamTurnstiles$History" "rows" "[[I", Cond.fieldLink RX1 16 "BeamTurnstiles$History" "next" "I", Cond.fieldLink RX1 20 "BeamTurnstiles$History" "size" "I", Cond.methodLink RL 12 yX4_init, Cond.instanceMethod yX4_init, Cond.code yX4_init cX4_init 2 none, Cond.methodLink RX4 1 objectInit, Cond.fieldLink RX4 7 "BeamTurnstilesModel" "all" "[I", Cond.fieldLink RX4 13 "BeamTurnstilesModel" "kept" "[I", Cond.fieldLink RX4 16 "BeamTurnstilesModel" "history" "[I", Cond.fieldLink RX4 19 "BeamTurnstilesModel" "slots" "[I", Cond.fieldLink RX4 22 "BeamTurnstilesModel" "isSaved" "[I", Cond.fieldLink RX4 25 "BeamTurnstilesModel" "text" "[I", Cond.methodLink RX4 28 yX4_lays, Cond.instanceMethod yX4_lays, Cond.selects RX4 yX4_lays yX4_lays, Cond.code yX4_lays cX4_lays 4 none, Cond.methodLink RL 13 yX3_set, Cond.instanceMethod yX3_set, Cond.selects RX3 yX3_set yX3_set, Cond.code yX3_set cX3_set 4 (some .int), Cond.fieldLink RX3 42 "BeamTurnstiles" "LOWEST" "[I", Cond.fieldLink RX3 46 "BeamTurnstiles" "HIGHEST" "[I"]
def wsL_law_r4 : List Cond := [Cond.fieldLink RX3 49 "BeamTurnstiles$Hall" "row" "[I", Cond.methodLink RX3 52 yX1_keep, Cond.instanceMethod yX1_keep, Cond.selects RX1 yX1_keep yX1_keep, Cond.code yX1_keep cX1_keep 2 none, Cond.methodLink RX1 29 Lib.Math.min.name, Cond.static Lib.Math.min.name, Cond.initialized "java/lang/Math", Cond.code Lib.Math.min.name Lib.Math.min.code 2 (some .int), Cond.static yX3_copyRow, Cond.code yX3_copyRow cX3_copyRow 2 none, Cond.methodLink RX3 155 arraycopyName, Cond.native arraycopyName, Cond.static arraycopyName, Cond.initialized "java/lang/System", Cond.methodLink RL 17 yX4_set, Cond.instanceMethod yX4_set, Cond.selects RX4 yX4_set yX4_set, Cond.code yX4_set cX4_set 4 (some .int), Cond.methodLink RX4 78 yX4_isSetting, Cond.static yX4_isSetting, Cond.code yX4_isSetting cX4_isSetting 2 (some .boolean), Cond.constantLong RX4 72 (200), Cond.constantLong RX4 74 (50)]
def wsL_law_r5 : List Cond := [Cond.constantLong RX4 76 (500), Cond.methodLink RX4 38 yX4_in, Cond.static yX4_in, Cond.code yX4_in cX4_in 6 (some .boolean), Cond.methodLink RX4 82 yX4_changes, Cond.instanceMethod yX4_changes, Cond.selects RX4 yX4_changes yX4_changes, Cond.code yX4_changes cX4_changes 2 none, Cond.fieldLink RX4 32 "BeamTurnstilesModel" "historyLong" "I", Cond.methodLink RL 18 yX3_event, Cond.instanceMethod yX3_event, Cond.selects RX3 yX3_event yX3_event, Cond.code yX3_event cX3_event 3 (some .int), Cond.methodLink RX3 56 yX3_isNoGate, Cond.static yX3_isNoGate, Cond.code yX3_isNoGate cX3_isNoGate 1 (some .boolean), Cond.methodLink RX3 60 yX0_change, Cond.instanceMethod yX0_change, Cond.selects RX0 yX0_change yX0_change, Cond.code yX0_change cX0_change 6 (some .int), Cond.fieldLink RX0 19 "BeamTurnstiles$Hall" "TURNED_BITS" "[I", Cond.methodLink RX0 22 yX0_begin, Cond.instanceMethod yX0_begin, Cond.selects RX0 yX0_begin yX0_begin]
def wsL_law_r6 : List Cond := [Cond.code yX0_begin cX0_begin 2 none, Cond.methodLink RX0 26 yX0_end, Cond.instanceMethod yX0_end, Cond.selects RX0 yX0_end yX0_end, Cond.code yX0_end cX0_end 2 none, Cond.methodLink RX0 29 yX0_comeThrough, Cond.instanceMethod yX0_comeThrough, Cond.selects RX0 yX0_comeThrough yX0_comeThrough, Cond.code yX0_comeThrough cX0_comeThrough 4 none, Cond.methodLink RX0 33 yX0_oneMoreInside, Cond.instanceMethod yX0_oneMoreInside, Cond.selects RX0 yX0_oneMoreInside yX0_oneMoreInside, Cond.code yX0_oneMoreInside cX0_oneMoreInside 1 none, Cond.methodLink RX0 39 yX0_becomeInside, Cond.instanceMethod yX0_becomeInside, Cond.selects RX0 yX0_becomeInside yX0_becomeInside, Cond.code yX0_becomeInside cX0_becomeInside 2 none, Cond.methodLink RX0 36 yX0_oneLessInside, Cond.instanceMethod yX0_oneLessInside, Cond.selects RX0 yX0_oneLessInside yX0_oneLessInside, Cond.code yX0_oneLessInside cX0_oneLessInside 1 none, Cond.methodLink RL 21 yX4_event, Cond.instanceMethod yX4_event, Cond.selects RX4 yX4_event yX4_event]
def wsL_law_r7 : List Cond := [Cond.code yX4_event cX4_event 4 (some .int), Cond.constantLong RX4 88 (2), Cond.methodLink RX4 85 yX4_isGate, Cond.static yX4_isGate, Cond.code yX4_isGate cX4_isGate 1 (some .boolean), Cond.constantLong RX4 36 (5), Cond.methodLink RX4 90 yX4_happens, Cond.instanceMethod yX4_happens, Cond.selects RX4 yX4_happens yX4_happens, Cond.code yX4_happens cX4_happens 6 (some .int), Cond.methodLink RX4 42 yX4_get, Cond.instanceMethod yX4_get, Cond.selects RX4 yX4_get yX4_get, Cond.code yX4_get cX4_get 3 (some .int), Cond.methodLink RX4 66 yX4_lookBehind, Cond.static yX4_lookBehind, Cond.code yX4_lookBehind cX4_lookBehind 3 (some .int), Cond.methodLink RX4 46 yX4_isUnderWay, Cond.instanceMethod yX4_isUnderWay, Cond.selects RX4 yX4_isUnderWay yX4_isUnderWay, Cond.code yX4_isUnderWay cX4_isUnderWay 2 (some .boolean), Cond.methodLink RX4 50 yX4_more, Cond.instanceMethod yX4_more, Cond.selects RX4 yX4_more yX4_more]
def wsL_law_r8 : List Cond := [Cond.code yX4_more cX4_more 4 none, Cond.methodLink RX4 69 yX4_ends, Cond.instanceMethod yX4_ends, Cond.selects RX4 yX4_ends yX4_ends, Cond.code yX4_ends cX4_ends 3 none, Cond.methodLink RX4 59 yX4_isBlocked, Cond.instanceMethod yX4_isBlocked, Cond.selects RX4 yX4_isBlocked yX4_isBlocked, Cond.code yX4_isBlocked cX4_isBlocked 2 (some .boolean), Cond.methodLink RX4 62 yX4_counts, Cond.instanceMethod yX4_counts, Cond.selects RX4 yX4_counts yX4_counts, Cond.code yX4_counts cX4_counts 4 none, Cond.methodLink RX4 53 yX4_comesIn, Cond.instanceMethod yX4_comesIn, Cond.selects RX4 yX4_comesIn yX4_comesIn, Cond.code yX4_comesIn cX4_comesIn 1 none, Cond.methodLink RX4 56 yX4_goesOut, Cond.instanceMethod yX4_goesOut, Cond.selects RX4 yX4_goesOut yX4_goesOut, Cond.code yX4_goesOut cX4_goesOut 1 none, Cond.methodLink RL 22 yX3_pass, Cond.instanceMethod yX3_pass, Cond.selects RX3 yX3_pass yX3_pass]
def wsL_law_r9 : List Cond := [Cond.code yX3_pass cX3_pass 2 (some .int), Cond.methodLink RX3 64 yX0_hasRoomFor, Cond.instanceMethod yX0_hasRoomFor, Cond.selects RX0 yX0_hasRoomFor yX0_hasRoomFor, Cond.code yX0_hasRoomFor cX0_hasRoomFor 2 (some .boolean), Cond.constant RX0 42 (99999), Cond.methodLink RX3 67 yX0_goBy, Cond.instanceMethod yX0_goBy, Cond.selects RX0 yX0_goBy yX0_goBy, Cond.code yX0_goBy cX0_goBy 2 none, Cond.methodLink RX3 71 yX0_blockedMask, Cond.instanceMethod yX0_blockedMask, Cond.selects RX0 yX0_blockedMask yX0_blockedMask, Cond.code yX0_blockedMask cX0_blockedMask 3 (some .int), Cond.methodLink RX0 50 yX0_isBlocked, Cond.instanceMethod yX0_isBlocked, Cond.selects RX0 yX0_isBlocked yX0_isBlocked, Cond.code yX0_isBlocked cX0_isBlocked 2 (some .boolean), Cond.methodLink RX0 43 yX0_isUnderWay, Cond.instanceMethod yX0_isUnderWay, Cond.selects RX0 yX0_isUnderWay yX0_isUnderWay, Cond.code yX0_isUnderWay cX0_isUnderWay 2 (some .boolean), Cond.methodLink RX0 47 yX0_ticksUnderWay, Cond.instanceMethod yX0_ticksUnderWay]
def wsL_law_r10 : List Cond := [Cond.selects RX0 yX0_ticksUnderWay yX0_ticksUnderWay, Cond.code yX0_ticksUnderWay cX0_ticksUnderWay 2 (some .int), Cond.methodLink RX3 75 yJ6_bitCount_0f7a4, Cond.static yJ6_bitCount_0f7a4, Cond.initialized RJ6, Cond.code yJ6_bitCount_0f7a4 cJ6_bitCount_0f7a4 1 (some .int), Cond.constant RJ6 265 (1431655765), Cond.constant RJ6 266 (858993459), Cond.constant RJ6 267 (252645135), Cond.methodLink RL 26 yX4_pass, Cond.instanceMethod yX4_pass, Cond.selects RX4 yX4_pass yX4_pass, Cond.code yX4_pass cX4_pass 2 (some .int), Cond.constantLong RX4 93 (999), Cond.constant RX4 95 (99999), Cond.methodLink RX4 96 yX4_blocked, Cond.instanceMethod yX4_blocked, Cond.selects RX4 yX4_blocked yX4_blocked, Cond.code yX4_blocked cX4_blocked 3 (some .int), Cond.methodLink RX4 100 yX4_bits, Cond.static yX4_bits, Cond.code yX4_bits cX4_bits 3 (some .int), Cond.methodLink RL 27 yX3_read, Cond.instanceMethod yX3_read]
def wsL_law_r11 : List Cond := [Cond.selects RX3 yX3_read yX3_read, Cond.code yX3_read cX3_read 2 (some .int), Cond.methodLink RX3 81 yX2_firstFault, Cond.instanceMethod yX2_firstFault, Cond.selects RX2 yX2_firstFault yX2_firstFault, Cond.code yX2_firstFault cX2_firstFault 3 (some .int), Cond.methodLink RX2 21 yX2_stateAfter, Cond.static yX2_stateAfter, Cond.code yX2_stateAfter cX2_stateAfter 2 (some .int), Cond.methodLink RX2 25 yX2_isGateDigit, Cond.static yX2_isGateDigit, Cond.code yX2_isGateDigit cX2_isGateDigit 1 (some .boolean), Cond.methodLink RX2 29 yX2_beamOf, Cond.static yX2_beamOf, Cond.code yX2_beamOf cX2_beamOf 1 (some .int), Cond.methodLink RX2 33 yX2_afterEvent, Cond.static yX2_afterEvent, Cond.code yX2_afterEvent cX2_afterEvent 1 (some .int), Cond.methodLink RX2 36 yX2_isDigit, Cond.static yX2_isDigit, Cond.code yX2_isDigit cX2_isDigit 1 (some .boolean), Cond.methodLink RX3 84 yX2_happenIn, Cond.instanceMethod yX2_happenIn, Cond.selects RX2 yX2_happenIn yX2_happenIn]
def wsL_law_r12 : List Cond := [Cond.code yX2_happenIn cX2_happenIn 6 (some .int), Cond.methodLink RX2 39 yX2_numberIn, Cond.instanceMethod yX2_numberIn, Cond.selects RX2 yX2_numberIn yX2_numberIn, Cond.code yX2_numberIn cX2_numberIn 5 (some .int), Cond.methodLink RX2 43 yX2_letGoBy, Cond.static yX2_letGoBy, Cond.code yX2_letGoBy cX2_letGoBy 2 none, Cond.methodLink RX2 60 yX0_hasRoomFor, Cond.methodLink RX2 63 yX0_goBy, Cond.methodLink RX2 47 yX2_changeBeams, Cond.instanceMethod yX2_changeBeams, Cond.selects RX2 yX2_changeBeams yX2_changeBeams, Cond.code yX2_changeBeams cX2_changeBeams 8 (some .int), Cond.methodLink RX2 55 yX0_change, Cond.methodLink RX3 88 yX2_empty, Cond.instanceMethod yX2_empty, Cond.selects RX2 yX2_empty yX2_empty, Cond.code yX2_empty cX2_empty 1 none, Cond.methodLink RL 31 yX4_read, Cond.instanceMethod yX4_read, Cond.selects RX4 yX4_read yX4_read, Cond.code yX4_read cX4_read 2 (some .int), Cond.fieldLink RX4 119 "BeamTurnstilesModel" "textLong" "I"]
def wsL_law_r13 : List Cond := [Cond.methodLink RX4 125 yX4_fault, Cond.instanceMethod yX4_fault, Cond.selects RX4 yX4_fault yX4_fault, Cond.code yX4_fault cX4_fault 2 (some .int), Cond.fieldLink RX4 147 "BeamTurnstilesModel" "spot" "I", Cond.methodLink RX4 166 yX4_readsEvent, Cond.instanceMethod yX4_readsEvent, Cond.selects RX4 yX4_readsEvent yX4_readsEvent, Cond.code yX4_readsEvent cX4_readsEvent 1 (some .boolean), Cond.methodLink RX4 153 yX4_takesOne, Cond.instanceMethod yX4_takesOne, Cond.selects RX4 yX4_takesOne yX4_takesOne, Cond.code yX4_takesOne cX4_takesOne 3 (some .boolean), Cond.methodLink RX4 150 yX4_isHere, Cond.instanceMethod yX4_isHere, Cond.selects RX4 yX4_isHere yX4_isHere, Cond.code yX4_isHere cX4_isHere 3 (some .boolean), Cond.methodLink RX4 159 yX4_readsTicks, Cond.instanceMethod yX4_readsTicks, Cond.selects RX4 yX4_readsTicks yX4_readsTicks, Cond.code yX4_readsTicks cX4_readsTicks 1 (some .boolean), Cond.fieldLink RX4 156 "BeamTurnstilesModel" "number" "I", Cond.methodLink RX4 163 yX4_beam, Cond.instanceMethod yX4_beam]
def wsL_law_r14 : List Cond := [Cond.selects RX4 yX4_beam yX4_beam, Cond.code yX4_beam cX4_beam 1 (some .int), Cond.methodLink RX4 131 yX4_reads, Cond.instanceMethod yX4_reads, Cond.selects RX4 yX4_reads yX4_reads, Cond.code yX4_reads cX4_reads 5 (some .int), Cond.methodLink RL 32 yX3_correct, Cond.instanceMethod yX3_correct, Cond.selects RX3 yX3_correct yX3_correct, Cond.code yX3_correct cX3_correct 3 (some .int), Cond.methodLink RX3 91 yX0_becomeInside, Cond.methodLink RL 35 yX4_correct, Cond.instanceMethod yX4_correct, Cond.selects RX4 yX4_correct yX4_correct, Cond.code yX4_correct cX4_correct 3 (some .int), Cond.methodLink RL 36 yX3_clear, Cond.instanceMethod yX3_clear, Cond.selects RX3 yX3_clear yX3_clear, Cond.code yX3_clear cX3_clear 2 (some .int), Cond.methodLink RX3 94 yX0_isUnderWay, Cond.methodLink RX3 97 yX0_free, Cond.instanceMethod yX0_free, Cond.selects RX0 yX0_free yX0_free, Cond.code yX0_free cX0_free 4 (some .int)]
def wsL_law_r15 : List Cond := [Cond.methodLink RL 39 yX4_clear, Cond.instanceMethod yX4_clear, Cond.selects RX4 yX4_clear yX4_clear, Cond.code yX4_clear cX4_clear 3 (some .int), Cond.methodLink RL 40 yX3_gate, Cond.instanceMethod yX3_gate, Cond.selects RX3 yX3_gate yX3_gate, Cond.code yX3_gate cX3_gate 3 (some .int), Cond.methodLink RX3 100 yX0_tell, Cond.instanceMethod yX0_tell, Cond.selects RX0 yX0_tell yX0_tell, Cond.code yX0_tell cX0_tell 3 (some .int), Cond.methodLink RX0 53 yX0_isSure, Cond.instanceMethod yX0_isSure, Cond.selects RX0 yX0_isSure yX0_isSure, Cond.code yX0_isSure cX0_isSure 2 (some .boolean), Cond.methodLink RX0 56 yX0_placeOf, Cond.instanceMethod yX0_placeOf, Cond.selects RX0 yX0_placeOf yX0_placeOf, Cond.code yX0_placeOf cX0_placeOf 2 (some .int), Cond.methodLink RL 43 yX4_gate, Cond.instanceMethod yX4_gate, Cond.selects RX4 yX4_gate yX4_gate, Cond.code yX4_gate cX4_gate 3 (some .int)]
def wsL_law_r16 : List Cond := [Cond.methodLink RX4 104 yX4_placeOf, Cond.instanceMethod yX4_placeOf, Cond.selects RX4 yX4_placeOf yX4_placeOf, Cond.code yX4_placeOf cX4_placeOf 2 (some .int), Cond.methodLink RL 44 yX3_count, Cond.instanceMethod yX3_count, Cond.selects RX3 yX3_count yX3_count, Cond.code yX3_count cX3_count 2 (some .int), Cond.fieldLink RX3 106 "BeamTurnstiles$Pad" "length" "I", Cond.fieldLink RX3 110 "BeamTurnstiles$History" "size" "I", Cond.methodLink RX3 103 yX0_underWayMask, Cond.instanceMethod yX0_underWayMask, Cond.selects RX0 yX0_underWayMask yX0_underWayMask, Cond.code yX0_underWayMask cX0_underWayMask 3 (some .int), Cond.methodLink RX3 113 yX0_sumOfGates, Cond.instanceMethod yX0_sumOfGates, Cond.selects RX0 yX0_sumOfGates yX0_sumOfGates, Cond.code yX0_sumOfGates cX0_sumOfGates 4 (some .int), Cond.methodLink RL 47 yX4_count, Cond.instanceMethod yX4_count, Cond.selects RX4 yX4_count yX4_count, Cond.code yX4_count cX4_count 2 (some .int), Cond.constantLong RX4 107 (7), Cond.constantLong RX4 109 (8)]
def wsL_law_r17 : List Cond := [Cond.constantLong RX4 111 (13), Cond.methodLink RX4 113 yX4_allOf, Cond.instanceMethod yX4_allOf, Cond.selects RX4 yX4_allOf yX4_allOf, Cond.code yX4_allOf cX4_allOf 4 (some .int), Cond.methodLink RX4 116 yX4_underWay, Cond.instanceMethod yX4_underWay, Cond.selects RX4 yX4_underWay yX4_underWay, Cond.code yX4_underWay cX4_underWay 3 (some .int), Cond.methodLink RL 48 yX3_mean, Cond.instanceMethod yX3_mean, Cond.selects RX3 yX3_mean yX3_mean, Cond.code yX3_mean cX3_mean 3 (some .int), Cond.methodLink RX3 116 yX0_passagesThrough, Cond.instanceMethod yX0_passagesThrough, Cond.selects RX0 yX0_passagesThrough yX0_passagesThrough, Cond.code yX0_passagesThrough cX0_passagesThrough 3 (some .int), Cond.methodLink RL 51 yX4_mean, Cond.instanceMethod yX4_mean, Cond.selects RX4 yX4_mean yX4_mean, Cond.code yX4_mean cX4_mean 2 (some .int), Cond.methodLink RX4 122 yX4_through, Cond.instanceMethod yX4_through, Cond.selects RX4 yX4_through yX4_through]
def wsL_law_r18 : List Cond := [Cond.code yX4_through cX4_through 2 (some .int), Cond.methodLink RL 52 yX3_busiest, Cond.instanceMethod yX3_busiest, Cond.selects RX3 yX3_busiest yX3_busiest, Cond.code yX3_busiest cX3_busiest 5 (some .int), Cond.methodLink RL 55 yX4_busiest, Cond.instanceMethod yX4_busiest, Cond.selects RX4 yX4_busiest yX4_busiest, Cond.code yX4_busiest cX4_busiest 4 (some .int), Cond.methodLink RL 56 yX3_ifRead, Cond.instanceMethod yX3_ifRead, Cond.selects RX3 yX3_ifRead yX3_ifRead, Cond.code yX3_ifRead cX3_ifRead 2 (some .int), Cond.methodLink RX3 119 yX3_copyRow, Cond.methodLink RL 59 yX4_ifRead, Cond.instanceMethod yX4_ifRead, Cond.selects RX4 yX4_ifRead yX4_ifRead, Cond.code yX4_ifRead cX4_ifRead 5 (some .int), Cond.methodLink RX4 128 yX4_keeps, Cond.instanceMethod yX4_keeps, Cond.selects RX4 yX4_keeps yX4_keeps, Cond.code yX4_keeps cX4_keeps 2 none, Cond.methodLink RX4 134 yX4_comesBack, Cond.instanceMethod yX4_comesBack]
def wsL_law_r19 : List Cond := [Cond.selects RX4 yX4_comesBack yX4_comesBack, Cond.code yX4_comesBack cX4_comesBack 2 none, Cond.methodLink RL 60 yX3_eventsTo, Cond.instanceMethod yX3_eventsTo, Cond.selects RX3 yX3_eventsTo yX3_eventsTo, Cond.code yX3_eventsTo cX3_eventsTo 6 (some .int), Cond.methodLink RX3 129 Lib.Math.abs.name, Cond.static Lib.Math.abs.name, Cond.code Lib.Math.abs.name Lib.Math.abs.code 1 (some .int), Cond.methodLink RX3 123 yX0_isSure, Cond.methodLink RX3 126 yX0_placeOf, Cond.methodLink RL 63 yX4_eventsTo, Cond.instanceMethod yX4_eventsTo, Cond.selects RX4 yX4_eventsTo yX4_eventsTo, Cond.code yX4_eventsTo cX4_eventsTo 5 (some .int), Cond.methodLink RL 64 yX3_untilBlocked, Cond.instanceMethod yX3_untilBlocked, Cond.selects RX3 yX3_untilBlocked yX3_untilBlocked, Cond.code yX3_untilBlocked cX3_untilBlocked 4 (some .int), Cond.methodLink RX3 134 yX0_isBlocked, Cond.methodLink RX3 137 yX0_ticksUnderWay, Cond.methodLink RL 67 yX4_untilBlocked, Cond.instanceMethod yX4_untilBlocked, Cond.selects RX4 yX4_untilBlocked yX4_untilBlocked]
def wsL_law_r20 : List Cond := [Cond.code yX4_untilBlocked cX4_untilBlocked 5 (some .int), Cond.methodLink RL 70 yX3_put, Cond.instanceMethod yX3_put, Cond.selects RX3 yX3_put yX3_put, Cond.code yX3_put cX3_put 4 (some .int), Cond.methodLink RX3 140 yX2_numberOf, Cond.static yX2_numberOf, Cond.code yX2_numberOf cX2_numberOf 6 (some .int), Cond.constantLong RX2 19 (255), Cond.methodLink RX3 144 yX2_hasRoomFor, Cond.instanceMethod yX2_hasRoomFor, Cond.selects RX2 yX2_hasRoomFor yX2_hasRoomFor, Cond.code yX2_hasRoomFor cX2_hasRoomFor 2 (some .boolean), Cond.methodLink RX3 145 yX2_append, Cond.instanceMethod yX2_append, Cond.selects RX2 yX2_append yX2_append, Cond.code yX2_append cX2_append 5 none, Cond.methodLink RL 74 yX4_put, Cond.instanceMethod yX4_put, Cond.selects RX4 yX4_put yX4_put, Cond.code yX4_put cX4_put 5 (some .int), Cond.constantLong RX4 137 (255), Cond.methodLink RX4 143 yX4_charactersOf, Cond.static yX4_charactersOf]
def wsL_law_r21 : List Cond := [Cond.code yX4_charactersOf cX4_charactersOf 5 (some .int), Cond.constantLong RX4 139 (33), Cond.constantLong RX4 141 (126), Cond.methodLink RL 75 yX3_wipe, Cond.instanceMethod yX3_wipe, Cond.selects RX3 yX3_wipe yX3_wipe, Cond.code yX3_wipe cX3_wipe 2 (some .int), Cond.methodLink RL 78 yX4_wipe, Cond.instanceMethod yX4_wipe, Cond.selects RX4 yX4_wipe yX4_wipe, Cond.code yX4_wipe cX4_wipe 2 (some .int), Cond.methodLink RL 79 yX3_fault, Cond.instanceMethod yX3_fault, Cond.selects RX3 yX3_fault yX3_fault, Cond.code yX3_fault cX3_fault 1 (some .int), Cond.methodLink RL 82 yX4_fault, Cond.methodLink RL 83 yX3_undo, Cond.instanceMethod yX3_undo, Cond.selects RX3 yX3_undo yX3_undo, Cond.code yX3_undo cX3_undo 1 (some .int), Cond.methodLink RX3 149 yX1_takeBack, Cond.instanceMethod yX1_takeBack, Cond.selects RX1 yX1_takeBack yX1_takeBack, Cond.code yX1_takeBack cX1_takeBack 2 none]
def wsL_law_r22 : List Cond := [Cond.methodLink RL 86 yX4_undo, Cond.instanceMethod yX4_undo, Cond.selects RX4 yX4_undo yX4_undo, Cond.code yX4_undo cX4_undo 2 (some .int), Cond.methodLink RL 87 yX3_save, Cond.instanceMethod yX3_save, Cond.selects RX3 yX3_save yX3_save, Cond.code yX3_save cX3_save 2 (some .int), Cond.methodLink RX3 152 yX3_isNoSlot, Cond.static yX3_isNoSlot, Cond.code yX3_isNoSlot cX3_isNoSlot 1 (some .boolean), Cond.methodLink RL 90 yX4_save, Cond.instanceMethod yX4_save, Cond.selects RX4 yX4_save yX4_save, Cond.code yX4_save cX4_save 3 (some .int), Cond.methodLink RX4 169 yX4_isSlot, Cond.static yX4_isSlot, Cond.code yX4_isSlot cX4_isSlot 1 (some .boolean), Cond.methodLink RL 91 yX3_restore, Cond.instanceMethod yX3_restore, Cond.selects RX3 yX3_restore yX3_restore, Cond.code yX3_restore cX3_restore 2 (some .int), Cond.methodLink RL 94 yX4_restore, Cond.instanceMethod yX4_restore]
def wsL_law_r23 : List Cond := [Cond.selects RX4 yX4_restore yX4_restore, Cond.code yX4_restore cX4_restore 3 (some .int)]
def wsL_law : List Cond := (wsL_law_r1 ++ (wsL_law_r2 ++ (wsL_law_r3 ++ (wsL_law_r4 ++ (wsL_law_r5 ++ (wsL_law_r6 ++ (wsL_law_r7 ++ (wsL_law_r8 ++ (wsL_law_r9 ++ (wsL_law_r10 ++ (wsL_law_r11 ++ (wsL_law_r12 ++ (wsL_law_r13 ++ (wsL_law_r14 ++ (wsL_law_r15 ++ (wsL_law_r16 ++ (wsL_law_r17 ++ (wsL_law_r18 ++ (wsL_law_r19 ++ (wsL_law_r20 ++ (wsL_law_r21 ++ (wsL_law_r22 ++ wsL_law_r23)))))))))))))))))))))) ++ wsX30 ++ wsX40 ++ wsX00 ++ wsX20 ++ wsX10 ++ ([] : List Cond)
abbrev vwCl : List vw_C := [(RX0, TX0, 1), (RX1, TX1, 3), (RX2, TX2, 2), (RX3, TX3, 6), (RX4, TX4, 10)]
end
section
set_option maxRecDepth 20000 in
theorem ggX0_init_X0_partOf : GoodIn wsX0_init wsX0_partOf := goodIn_r _ [9] (by decide +kernel) (by decide +kernel)
set_option maxRecDepth 20000 in
theorem gX0_init_X0_partOf : GoodIn wsX0_init (va_wsS RX0 15 yX0_partOf wsX0_partOf) := goodIn_app (goodIn_of _ (by decide +kernel)) ggX0_init_X0_partOf
theorem dX0_init_0 : decode cX0_init 0 = .ok (.aload_n 0, 1) := by decide +kernel
theorem dX0_init_1 : decode cX0_init 1 = .ok (.invokespecial 5, 3) := by decide +kernel
theorem dX0_init_4 : decode cX0_init 4 = .ok (.aload_n 0, 1) := by decide +kernel
theorem dX0_init_5 : decode cX0_init 5 = .ok (.bipush 86, 2) := by decide +kernel
theorem dX0_init_7 : decode cX0_init 7 = .ok (.newarray .int, 2) := by decide +kernel
theorem dX0_init_9 : decode cX0_init 9 = .ok (.putfield 11, 3) := by decide +kernel
theorem dX0_init_12 : decode cX0_init 12 = .ok (.aload_n 0, 1) := by decide +kernel
theorem dX0_init_13 : decode cX0_init 13 = .ok (.getfield 11, 3) := by decide +kernel
theorem dX0_init_16 : decode cX0_init 16 = .ok (.iconst 0, 1) := by decide +kernel
theorem dX0_init_17 : decode cX0_init 17 = .ok (.bipush 30, 2) := by decide +kernel
theorem dX0_init_19 : decode cX0_init 19 = .ok (.iastore, 1) := by decide +kernel
theorem dX0_init_20 : decode cX0_init 20 = .ok (.aload_n 0, 1) := by decide +kernel
theorem dX0_init_21 : decode cX0_init 21 = .ok (.getfield 11, 3) := by decide +kernel
theorem dX0_init_24 : decode cX0_init 24 = .ok (.iconst 1, 1) := by decide +kernel
theorem dX0_init_25 : decode cX0_init 25 = .ok (.iconst 3, 1) := by decide +kernel
theorem dX0_init_26 : decode cX0_init 26 = .ok (.iastore, 1) := by decide +kernel
theorem dX0_init_27 : decode cX0_init 27 = .ok (.aload_n 0, 1) := by decide +kernel
theorem dX0_init_28 : decode cX0_init 28 = .ok (.getfield 11, 3) := by decide +kernel
theorem dX0_init_31 : decode cX0_init 31 = .ok (.iconst 2, 1) := by decide +kernel
theorem dX0_init_32 : decode cX0_init 32 = .ok (.bipush 20, 2) := by decide +kernel
theorem dX0_init_34 : decode cX0_init 34 = .ok (.iastore, 1) := by decide +kernel
theorem dX0_init_35 : decode cX0_init 35 = .ok (.iconst 0, 1) := by decide +kernel
theorem dX0_init_36 : decode cX0_init 36 = .ok (.istore_n 1, 1) := by decide +kernel
theorem dX0_init_37 : decode cX0_init 37 = .ok (.iload_n 1, 1) := by decide +kernel
theorem dX0_init_38 : decode cX0_init 38 = .ok (.bipush 6, 2) := by decide +kernel
theorem dX0_init_40 : decode cX0_init 40 = .ok (.if_icmp .ge 23, 3) := by decide +kernel
theorem dX0_init_43 : decode cX0_init 43 = .ok (.aload_n 0, 1) := by decide +kernel
theorem dX0_init_44 : decode cX0_init 44 = .ok (.getfield 11, 3) := by decide +kernel
theorem dX0_init_47 : decode cX0_init 47 = .ok (.iload_n 1, 1) := by decide +kernel
theorem dX0_init_48 : decode cX0_init 48 = .ok (.invokestatic 15, 3) := by decide +kernel
theorem dX0_init_51 : decode cX0_init 51 = .ok (.bipush 12, 2) := by decide +kernel
theorem dX0_init_53 : decode cX0_init 53 = .ok (.iadd, 1) := by decide +kernel
theorem dX0_init_54 : decode cX0_init 54 = .ok (.bipush (-6), 2) := by decide +kernel
theorem dX0_init_56 : decode cX0_init 56 = .ok (.iastore, 1) := by decide +kernel
theorem dX0_init_57 : decode cX0_init 57 = .ok (.iinc 1 1, 3) := by decide +kernel
theorem dX0_init_60 : decode cX0_init 60 = .ok (.goto (-23), 3) := by decide +kernel
theorem dX0_init_63 : decode cX0_init 63 = .ok (.return_, 1) := by decide +kernel
theorem dX0_partOf_0 : decode cX0_partOf 0 = .ok (.bipush 8, 2) := by decide +kernel
theorem dX0_partOf_2 : decode cX0_partOf 2 = .ok (.iload_n 0, 1) := by decide +kernel
theorem dX0_partOf_3 : decode cX0_partOf 3 = .ok (.bipush 13, 2) := by decide +kernel
theorem dX0_partOf_5 : decode cX0_partOf 5 = .ok (.imul, 1) := by decide +kernel
theorem dX0_partOf_6 : decode cX0_partOf 6 = .ok (.iadd, 1) := by decide +kernel
theorem dX0_partOf_7 : decode cX0_partOf 7 = .ok (.ireturn, 1) := by decide +kernel
set_option maxRecDepth 20000 in
theorem ggX0_change_X0_partOf : GoodIn wsX0_change wsX0_partOf := goodIn_r _ [6] (by decide +kernel) (by decide +kernel)
set_option maxRecDepth 20000 in
theorem gX0_change_X0_partOf : GoodIn wsX0_change (va_wsS RX0 15 yX0_partOf wsX0_partOf) := goodIn_app (goodIn_of _ (by decide +kernel)) ggX0_change_X0_partOf
set_option maxRecDepth 20000 in
theorem ggX0_change_X0_begin : GoodIn wsX0_change wsX0_begin := goodIn_r _ [10, 1, 31] (by decide +kernel) (by decide +kernel)
set_option maxRecDepth 20000 in
theorem gX0_change_X0_begin : GoodIn wsX0_change (wsV RX0 22 RX0 yX0_begin wsX0_begin) := goodIn_app (goodIn_of _ (by decide +kernel)) ggX0_change_X0_begin
set_option maxRecDepth 20000 in
theorem ggX0_change_X0_end : GoodIn wsX0_change wsX0_end := goodIn_r _ [14, 1, 15, 16, 17, 5, 18, 19, 20, 21, 22, 23, 24, 25, 26, 27, 28, 29, 30, 31] (by decide +kernel) (by decide +kernel)
set_option maxRecDepth 20000 in
theorem gX0_change_X0_end : GoodIn wsX0_change (wsV RX0 26 RX0 yX0_end wsX0_end) := goodIn_app (goodIn_of _ (by decide +kernel)) ggX0_change_X0_end
theorem dX0_change_0 : decode cX0_change 0 = .ok (.iload_n 1, 1) := by decide +kernel
theorem dX0_change_1 : decode cX0_change 1 = .ok (.invokestatic 15, 3) := by decide +kernel
theorem dX0_change_4 : decode cX0_change 4 = .ok (.istore_n 3, 1) := by decide +kernel
theorem dX0_change_5 : decode cX0_change 5 = .ok (.aload_n 0, 1) := by decide +kernel
theorem dX0_change_6 : decode cX0_change 6 = .ok (.getfield 11, 3) := by decide +kernel
theorem dX0_change_9 : decode cX0_change 9 = .ok (.iload_n 3, 1) := by decide +kernel
theorem dX0_change_10 : decode cX0_change 10 = .ok (.iconst 0, 1) := by decide +kernel
theorem dX0_change_11 : decode cX0_change 11 = .ok (.iadd, 1) := by decide +kernel
theorem dX0_change_12 : decode cX0_change 12 = .ok (.iaload, 1) := by decide +kernel
theorem dX0_change_13 : decode cX0_change 13 = .ok (.istore 4, 2) := by decide +kernel
theorem dX0_change_15 : decode cX0_change 15 = .ok (.iload 4, 2) := by decide +kernel
theorem dX0_change_17 : decode cX0_change 17 = .ok (.getstatic 19, 3) := by decide +kernel
theorem dX0_change_20 : decode cX0_change 20 = .ok (.iload_n 2, 1) := by decide +kernel
theorem dX0_change_21 : decode cX0_change 21 = .ok (.iaload, 1) := by decide +kernel
theorem dX0_change_22 : decode cX0_change 22 = .ok (.ixor, 1) := by decide +kernel
theorem dX0_change_23 : decode cX0_change 23 = .ok (.istore 5, 2) := by decide +kernel
theorem dX0_change_25 : decode cX0_change 25 = .ok (.iload 4, 2) := by decide +kernel
theorem dX0_change_27 : decode cX0_change 27 = .ok (.ifCond .ne 8, 3) := by decide +kernel
theorem dX0_change_30 : decode cX0_change 30 = .ok (.aload_n 0, 1) := by decide +kernel
theorem dX0_change_31 : decode cX0_change 31 = .ok (.iload_n 3, 1) := by decide +kernel
theorem dX0_change_32 : decode cX0_change 32 = .ok (.invokevirtual 22, 3) := by decide +kernel
theorem dX0_change_35 : decode cX0_change 35 = .ok (.iload_n 2, 1) := by decide +kernel
theorem dX0_change_36 : decode cX0_change 36 = .ok (.iconst 2, 1) := by decide +kernel
theorem dX0_change_37 : decode cX0_change 37 = .ok (.if_icmp .ne 15, 3) := by decide +kernel
theorem dX0_change_40 : decode cX0_change 40 = .ok (.aload_n 0, 1) := by decide +kernel
theorem dX0_change_41 : decode cX0_change 41 = .ok (.getfield 11, 3) := by decide +kernel
theorem dX0_change_44 : decode cX0_change 44 = .ok (.iload_n 3, 1) := by decide +kernel
theorem dX0_change_45 : decode cX0_change 45 = .ok (.iconst 3, 1) := by decide +kernel
theorem dX0_change_46 : decode cX0_change 46 = .ok (.iadd, 1) := by decide +kernel
theorem dX0_change_47 : decode cX0_change 47 = .ok (.iconst 0, 1) := by decide +kernel
theorem dX0_change_48 : decode cX0_change 48 = .ok (.iastore, 1) := by decide +kernel
theorem dX0_change_49 : decode cX0_change 49 = .ok (.goto 30, 3) := by decide +kernel
theorem dX0_change_52 : decode cX0_change 52 = .ok (.aload_n 0, 1) := by decide +kernel
theorem dX0_change_53 : decode cX0_change 53 = .ok (.getfield 11, 3) := by decide +kernel
theorem dX0_change_56 : decode cX0_change 56 = .ok (.iload_n 3, 1) := by decide +kernel
theorem dX0_change_57 : decode cX0_change 57 = .ok (.iconst 2, 1) := by decide +kernel
theorem dX0_change_58 : decode cX0_change 58 = .ok (.iadd, 1) := by decide +kernel
theorem dX0_change_59 : decode cX0_change 59 = .ok (.dup2, 1) := by decide +kernel
theorem dX0_change_60 : decode cX0_change 60 = .ok (.iaload, 1) := by decide +kernel
theorem dX0_change_61 : decode cX0_change 61 = .ok (.iload 5, 2) := by decide +kernel
theorem dX0_change_63 : decode cX0_change 63 = .ok (.iload 4, 2) := by decide +kernel
theorem dX0_change_65 : decode cX0_change 65 = .ok (.iconst 1, 1) := by decide +kernel
theorem dX0_change_66 : decode cX0_change 66 = .ok (.iadd, 1) := by decide +kernel
theorem dX0_change_67 : decode cX0_change 67 = .ok (.iconst 3, 1) := by decide +kernel
theorem dX0_change_68 : decode cX0_change 68 = .ok (.iand, 1) := by decide +kernel
theorem dX0_change_69 : decode cX0_change 69 = .ok (.if_icmp .ne 7, 3) := by decide +kernel
theorem dX0_change_72 : decode cX0_change 72 = .ok (.iconst 1, 1) := by decide +kernel
theorem dX0_change_73 : decode cX0_change 73 = .ok (.goto 4, 3) := by decide +kernel
theorem dX0_change_76 : decode cX0_change 76 = .ok (.iconst (-1), 1) := by decide +kernel
theorem dX0_change_77 : decode cX0_change 77 = .ok (.iadd, 1) := by decide +kernel
theorem dX0_change_78 : decode cX0_change 78 = .ok (.iastore, 1) := by decide +kernel
theorem dX0_change_79 : decode cX0_change 79 = .ok (.aload_n 0, 1) := by decide +kernel
theorem dX0_change_80 : decode cX0_change 80 = .ok (.getfield 11, 3) := by decide +kernel
theorem dX0_change_83 : decode cX0_change 83 = .ok (.iload_n 3, 1) := by decide +kernel
theorem dX0_change_84 : decode cX0_change 84 = .ok (.iconst 0, 1) := by decide +kernel
theorem dX0_change_85 : decode cX0_change 85 = .ok (.iadd, 1) := by decide +kernel
theorem dX0_change_86 : decode cX0_change 86 = .ok (.iload 5, 2) := by decide +kernel
theorem dX0_change_88 : decode cX0_change 88 = .ok (.iastore, 1) := by decide +kernel
theorem dX0_change_89 : decode cX0_change 89 = .ok (.iload 5, 2) := by decide +kernel
theorem dX0_change_91 : decode cX0_change 91 = .ok (.ifCond .ne 8, 3) := by decide +kernel
theorem dX0_change_94 : decode cX0_change 94 = .ok (.aload_n 0, 1) := by decide +kernel
theorem dX0_change_95 : decode cX0_change 95 = .ok (.iload_n 3, 1) := by decide +kernel
theorem dX0_change_96 : decode cX0_change 96 = .ok (.invokevirtual 26, 3) := by decide +kernel
theorem dX0_change_99 : decode cX0_change 99 = .ok (.iload 5, 2) := by decide +kernel
theorem dX0_change_101 : decode cX0_change 101 = .ok (.ireturn, 1) := by decide +kernel
set_option maxRecDepth 20000 in
theorem ggX0_free_X0_partOf : GoodIn wsX0_free wsX0_partOf := goodIn_r _ [5] (by decide +kernel) (by decide +kernel)
set_option maxRecDepth 20000 in
theorem gX0_free_X0_partOf : GoodIn wsX0_free (va_wsS RX0 15 yX0_partOf wsX0_partOf) := goodIn_app (goodIn_of _ (by decide +kernel)) ggX0_free_X0_partOf
set_option maxRecDepth 20000 in
theorem ggX0_free_X0_end : GoodIn wsX0_free wsX0_end := goodIn_r _ [9, 1, 10, 11, 12, 4, 13, 14, 15, 16, 17, 18, 19, 20, 21, 22, 23, 24, 25, 26] (by decide +kernel) (by decide +kernel)
set_option maxRecDepth 20000 in
theorem gX0_free_X0_end : GoodIn wsX0_free (wsV RX0 26 RX0 yX0_end wsX0_end) := goodIn_app (goodIn_of _ (by decide +kernel)) ggX0_free_X0_end
theorem dX0_free_0 : decode cX0_free 0 = .ok (.iload_n 1, 1) := by decide +kernel
theorem dX0_free_1 : decode cX0_free 1 = .ok (.invokestatic 15, 3) := by decide +kernel
theorem dX0_free_4 : decode cX0_free 4 = .ok (.istore_n 2, 1) := by decide +kernel
theorem dX0_free_5 : decode cX0_free 5 = .ok (.aload_n 0, 1) := by decide +kernel
theorem dX0_free_6 : decode cX0_free 6 = .ok (.getfield 11, 3) := by decide +kernel
theorem dX0_free_9 : decode cX0_free 9 = .ok (.iload_n 2, 1) := by decide +kernel
theorem dX0_free_10 : decode cX0_free 10 = .ok (.iconst 0, 1) := by decide +kernel
theorem dX0_free_11 : decode cX0_free 11 = .ok (.iadd, 1) := by decide +kernel
theorem dX0_free_12 : decode cX0_free 12 = .ok (.iaload, 1) := by decide +kernel
theorem dX0_free_13 : decode cX0_free 13 = .ok (.istore_n 3, 1) := by decide +kernel
theorem dX0_free_14 : decode cX0_free 14 = .ok (.aload_n 0, 1) := by decide +kernel
theorem dX0_free_15 : decode cX0_free 15 = .ok (.getfield 11, 3) := by decide +kernel
theorem dX0_free_18 : decode cX0_free 18 = .ok (.iload_n 2, 1) := by decide +kernel
theorem dX0_free_19 : decode cX0_free 19 = .ok (.iconst 0, 1) := by decide +kernel
theorem dX0_free_20 : decode cX0_free 20 = .ok (.iadd, 1) := by decide +kernel
theorem dX0_free_21 : decode cX0_free 21 = .ok (.iconst 0, 1) := by decide +kernel
theorem dX0_free_22 : decode cX0_free 22 = .ok (.iastore, 1) := by decide +kernel
theorem dX0_free_23 : decode cX0_free 23 = .ok (.aload_n 0, 1) := by decide +kernel
theorem dX0_free_24 : decode cX0_free 24 = .ok (.getfield 11, 3) := by decide +kernel
theorem dX0_free_27 : decode cX0_free 27 = .ok (.iload_n 2, 1) := by decide +kernel
theorem dX0_free_28 : decode cX0_free 28 = .ok (.iconst 3, 1) := by decide +kernel
theorem dX0_free_29 : decode cX0_free 29 = .ok (.iadd, 1) := by decide +kernel
theorem dX0_free_30 : decode cX0_free 30 = .ok (.iconst 0, 1) := by decide +kernel
theorem dX0_free_31 : decode cX0_free 31 = .ok (.iastore, 1) := by decide +kernel
theorem dX0_free_32 : decode cX0_free 32 = .ok (.aload_n 0, 1) := by decide +kernel
theorem dX0_free_33 : decode cX0_free 33 = .ok (.iload_n 2, 1) := by decide +kernel
theorem dX0_free_34 : decode cX0_free 34 = .ok (.invokevirtual 26, 3) := by decide +kernel
theorem dX0_free_37 : decode cX0_free 37 = .ok (.iload_n 3, 1) := by decide +kernel
theorem dX0_free_38 : decode cX0_free 38 = .ok (.ireturn, 1) := by decide +kernel
theorem dX0_begin_0 : decode cX0_begin 0 = .ok (.aload_n 0, 1) := by decide +kernel
theorem dX0_begin_1 : decode cX0_begin 1 = .ok (.getfield 11, 3) := by decide +kernel
theorem dX0_begin_4 : decode cX0_begin 4 = .ok (.iload_n 1, 1) := by decide +kernel
theorem dX0_begin_5 : decode cX0_begin 5 = .ok (.iconst 1, 1) := by decide +kernel
theorem dX0_begin_6 : decode cX0_begin 6 = .ok (.iadd, 1) := by decide +kernel
theorem dX0_begin_7 : decode cX0_begin 7 = .ok (.aload_n 0, 1) := by decide +kernel
theorem dX0_begin_8 : decode cX0_begin 8 = .ok (.getfield 11, 3) := by decide +kernel
theorem dX0_begin_11 : decode cX0_begin 11 = .ok (.iconst 3, 1) := by decide +kernel
theorem dX0_begin_12 : decode cX0_begin 12 = .ok (.iaload, 1) := by decide +kernel
theorem dX0_begin_13 : decode cX0_begin 13 = .ok (.iastore, 1) := by decide +kernel
theorem dX0_begin_14 : decode cX0_begin 14 = .ok (.aload_n 0, 1) := by decide +kernel
theorem dX0_begin_15 : decode cX0_begin 15 = .ok (.getfield 11, 3) := by decide +kernel
theorem dX0_begin_18 : decode cX0_begin 18 = .ok (.iload_n 1, 1) := by decide +kernel
theorem dX0_begin_19 : decode cX0_begin 19 = .ok (.iconst 2, 1) := by decide +kernel
theorem dX0_begin_20 : decode cX0_begin 20 = .ok (.iadd, 1) := by decide +kernel
theorem dX0_begin_21 : decode cX0_begin 21 = .ok (.iconst 0, 1) := by decide +kernel
theorem dX0_begin_22 : decode cX0_begin 22 = .ok (.iastore, 1) := by decide +kernel
theorem dX0_begin_23 : decode cX0_begin 23 = .ok (.aload_n 0, 1) := by decide +kernel
theorem dX0_begin_24 : decode cX0_begin 24 = .ok (.getfield 11, 3) := by decide +kernel
theorem dX0_begin_27 : decode cX0_begin 27 = .ok (.iload_n 1, 1) := by decide +kernel
theorem dX0_begin_28 : decode cX0_begin 28 = .ok (.iconst 3, 1) := by decide +kernel
theorem dX0_begin_29 : decode cX0_begin 29 = .ok (.iadd, 1) := by decide +kernel
theorem dX0_begin_30 : decode cX0_begin 30 = .ok (.iconst 1, 1) := by decide +kernel
theorem dX0_begin_31 : decode cX0_begin 31 = .ok (.iastore, 1) := by decide +kernel
theorem dX0_begin_32 : decode cX0_begin 32 = .ok (.return_, 1) := by decide +kernel
set_option maxRecDepth 20000 in
theorem ggX0_end_X0_comeThrough : GoodIn wsX0_end wsX0_comeThrough := goodIn_r _ [6, 1, 19] (by decide +kernel) (by decide +kernel)
set_option maxRecDepth 20000 in
theorem gX0_end_X0_comeThrough : GoodIn wsX0_end (wsV RX0 29 RX0 yX0_comeThrough wsX0_comeThrough) := goodIn_app (goodIn_of _ (by decide +kernel)) ggX0_end_X0_comeThrough
set_option maxRecDepth 20000 in
theorem ggX0_end_X0_oneMoreInside : GoodIn wsX0_end wsX0_oneMoreInside := goodIn_r _ [10, 1, 11, 12, 13, 5, 14, 19] (by decide +kernel) (by decide +kernel)
set_option maxRecDepth 20000 in
theorem gX0_end_X0_oneMoreInside : GoodIn wsX0_end (wsV RX0 33 RX0 yX0_oneMoreInside wsX0_oneMoreInside) := goodIn_app (goodIn_of _ (by decide +kernel)) ggX0_end_X0_oneMoreInside
set_option maxRecDepth 20000 in
theorem ggX0_end_X0_oneLessInside : GoodIn wsX0_end wsX0_oneLessInside := goodIn_r _ [18, 1, 19] (by decide +kernel) (by decide +kernel)
set_option maxRecDepth 20000 in
theorem gX0_end_X0_oneLessInside : GoodIn wsX0_end (wsV RX0 36 RX0 yX0_oneLessInside wsX0_oneLessInside) := goodIn_app (goodIn_of _ (by decide +kernel)) ggX0_end_X0_oneLessInside
theorem dX0_end_0 : decode cX0_end 0 = .ok (.aload_n 0, 1) := by decide +kernel
theorem dX0_end_1 : decode cX0_end 1 = .ok (.getfield 11, 3) := by decide +kernel
theorem dX0_end_4 : decode cX0_end 4 = .ok (.iconst 3, 1) := by decide +kernel
theorem dX0_end_5 : decode cX0_end 5 = .ok (.iaload, 1) := by decide +kernel
theorem dX0_end_6 : decode cX0_end 6 = .ok (.aload_n 0, 1) := by decide +kernel
theorem dX0_end_7 : decode cX0_end 7 = .ok (.getfield 11, 3) := by decide +kernel
theorem dX0_end_10 : decode cX0_end 10 = .ok (.iload_n 1, 1) := by decide +kernel
theorem dX0_end_11 : decode cX0_end 11 = .ok (.iconst 1, 1) := by decide +kernel
theorem dX0_end_12 : decode cX0_end 12 = .ok (.iadd, 1) := by decide +kernel
theorem dX0_end_13 : decode cX0_end 13 = .ok (.iaload, 1) := by decide +kernel
theorem dX0_end_14 : decode cX0_end 14 = .ok (.isub, 1) := by decide +kernel
theorem dX0_end_15 : decode cX0_end 15 = .ok (.aload_n 0, 1) := by decide +kernel
theorem dX0_end_16 : decode cX0_end 16 = .ok (.getfield 11, 3) := by decide +kernel
theorem dX0_end_19 : decode cX0_end 19 = .ok (.iconst 0, 1) := by decide +kernel
theorem dX0_end_20 : decode cX0_end 20 = .ok (.iaload, 1) := by decide +kernel
theorem dX0_end_21 : decode cX0_end 21 = .ok (.if_icmp .lt 16, 3) := by decide +kernel
theorem dX0_end_24 : decode cX0_end 24 = .ok (.aload_n 0, 1) := by decide +kernel
theorem dX0_end_25 : decode cX0_end 25 = .ok (.getfield 11, 3) := by decide +kernel
theorem dX0_end_28 : decode cX0_end 28 = .ok (.iload_n 1, 1) := by decide +kernel
theorem dX0_end_29 : decode cX0_end 29 = .ok (.bipush 9, 2) := by decide +kernel
theorem dX0_end_31 : decode cX0_end 31 = .ok (.iadd, 1) := by decide +kernel
theorem dX0_end_32 : decode cX0_end 32 = .ok (.dup2, 1) := by decide +kernel
theorem dX0_end_33 : decode cX0_end 33 = .ok (.iaload, 1) := by decide +kernel
theorem dX0_end_34 : decode cX0_end 34 = .ok (.iconst 1, 1) := by decide +kernel
theorem dX0_end_35 : decode cX0_end 35 = .ok (.iadd, 1) := by decide +kernel
theorem dX0_end_36 : decode cX0_end 36 = .ok (.iastore, 1) := by decide +kernel
theorem dX0_end_37 : decode cX0_end 37 = .ok (.aload_n 0, 1) := by decide +kernel
theorem dX0_end_38 : decode cX0_end 38 = .ok (.getfield 11, 3) := by decide +kernel
theorem dX0_end_41 : decode cX0_end 41 = .ok (.iload_n 1, 1) := by decide +kernel
theorem dX0_end_42 : decode cX0_end 42 = .ok (.iconst 3, 1) := by decide +kernel
theorem dX0_end_43 : decode cX0_end 43 = .ok (.iadd, 1) := by decide +kernel
theorem dX0_end_44 : decode cX0_end 44 = .ok (.iaload, 1) := by decide +kernel
theorem dX0_end_45 : decode cX0_end 45 = .ok (.ifCond .ne 19, 3) := by decide +kernel
theorem dX0_end_48 : decode cX0_end 48 = .ok (.aload_n 0, 1) := by decide +kernel
theorem dX0_end_49 : decode cX0_end 49 = .ok (.getfield 11, 3) := by decide +kernel
theorem dX0_end_52 : decode cX0_end 52 = .ok (.iload_n 1, 1) := by decide +kernel
theorem dX0_end_53 : decode cX0_end 53 = .ok (.bipush 8, 2) := by decide +kernel
theorem dX0_end_55 : decode cX0_end 55 = .ok (.iadd, 1) := by decide +kernel
theorem dX0_end_56 : decode cX0_end 56 = .ok (.dup2, 1) := by decide +kernel
theorem dX0_end_57 : decode cX0_end 57 = .ok (.iaload, 1) := by decide +kernel
theorem dX0_end_58 : decode cX0_end 58 = .ok (.iconst 1, 1) := by decide +kernel
theorem dX0_end_59 : decode cX0_end 59 = .ok (.iadd, 1) := by decide +kernel
theorem dX0_end_60 : decode cX0_end 60 = .ok (.iastore, 1) := by decide +kernel
theorem dX0_end_61 : decode cX0_end 61 = .ok (.goto 68, 3) := by decide +kernel
theorem dX0_end_64 : decode cX0_end 64 = .ok (.aload_n 0, 1) := by decide +kernel
theorem dX0_end_65 : decode cX0_end 65 = .ok (.getfield 11, 3) := by decide +kernel
theorem dX0_end_68 : decode cX0_end 68 = .ok (.iload_n 1, 1) := by decide +kernel
theorem dX0_end_69 : decode cX0_end 69 = .ok (.iconst 2, 1) := by decide +kernel
theorem dX0_end_70 : decode cX0_end 70 = .ok (.iadd, 1) := by decide +kernel
theorem dX0_end_71 : decode cX0_end 71 = .ok (.iaload, 1) := by decide +kernel
theorem dX0_end_72 : decode cX0_end 72 = .ok (.iconst 4, 1) := by decide +kernel
theorem dX0_end_73 : decode cX0_end 73 = .ok (.if_icmp .ne 16, 3) := by decide +kernel
theorem dX0_end_76 : decode cX0_end 76 = .ok (.aload_n 0, 1) := by decide +kernel
theorem dX0_end_77 : decode cX0_end 77 = .ok (.iload_n 1, 1) := by decide +kernel
theorem dX0_end_78 : decode cX0_end 78 = .ok (.iconst 5, 1) := by decide +kernel
theorem dX0_end_79 : decode cX0_end 79 = .ok (.invokevirtual 29, 3) := by decide +kernel
theorem dX0_end_82 : decode cX0_end 82 = .ok (.aload_n 0, 1) := by decide +kernel
theorem dX0_end_83 : decode cX0_end 83 = .ok (.invokevirtual 33, 3) := by decide +kernel
theorem dX0_end_86 : decode cX0_end 86 = .ok (.goto 43, 3) := by decide +kernel
theorem dX0_end_89 : decode cX0_end 89 = .ok (.aload_n 0, 1) := by decide +kernel
theorem dX0_end_90 : decode cX0_end 90 = .ok (.getfield 11, 3) := by decide +kernel
theorem dX0_end_93 : decode cX0_end 93 = .ok (.iload_n 1, 1) := by decide +kernel
theorem dX0_end_94 : decode cX0_end 94 = .ok (.iconst 2, 1) := by decide +kernel
theorem dX0_end_95 : decode cX0_end 95 = .ok (.iadd, 1) := by decide +kernel
theorem dX0_end_96 : decode cX0_end 96 = .ok (.iaload, 1) := by decide +kernel
theorem dX0_end_97 : decode cX0_end 97 = .ok (.bipush (-4), 2) := by decide +kernel
theorem dX0_end_99 : decode cX0_end 99 = .ok (.if_icmp .ne 17, 3) := by decide +kernel
theorem dX0_end_102 : decode cX0_end 102 = .ok (.aload_n 0, 1) := by decide +kernel
theorem dX0_end_103 : decode cX0_end 103 = .ok (.iload_n 1, 1) := by decide +kernel
theorem dX0_end_104 : decode cX0_end 104 = .ok (.bipush 6, 2) := by decide +kernel
theorem dX0_end_106 : decode cX0_end 106 = .ok (.invokevirtual 29, 3) := by decide +kernel
theorem dX0_end_109 : decode cX0_end 109 = .ok (.aload_n 0, 1) := by decide +kernel
theorem dX0_end_110 : decode cX0_end 110 = .ok (.invokevirtual 36, 3) := by decide +kernel
theorem dX0_end_113 : decode cX0_end 113 = .ok (.goto 16, 3) := by decide +kernel
theorem dX0_end_116 : decode cX0_end 116 = .ok (.aload_n 0, 1) := by decide +kernel
theorem dX0_end_117 : decode cX0_end 117 = .ok (.getfield 11, 3) := by decide +kernel
theorem dX0_end_120 : decode cX0_end 120 = .ok (.iload_n 1, 1) := by decide +kernel
theorem dX0_end_121 : decode cX0_end 121 = .ok (.bipush 7, 2) := by decide +kernel
theorem dX0_end_123 : decode cX0_end 123 = .ok (.iadd, 1) := by decide +kernel
theorem dX0_end_124 : decode cX0_end 124 = .ok (.dup2, 1) := by decide +kernel
theorem dX0_end_125 : decode cX0_end 125 = .ok (.iaload, 1) := by decide +kernel
theorem dX0_end_126 : decode cX0_end 126 = .ok (.iconst 1, 1) := by decide +kernel
theorem dX0_end_127 : decode cX0_end 127 = .ok (.iadd, 1) := by decide +kernel
theorem dX0_end_128 : decode cX0_end 128 = .ok (.iastore, 1) := by decide +kernel
theorem dX0_end_129 : decode cX0_end 129 = .ok (.return_, 1) := by decide +kernel
theorem dX0_comeThrough_0 : decode cX0_comeThrough 0 = .ok (.aload_n 0, 1) := by decide +kernel
theorem dX0_comeThrough_1 : decode cX0_comeThrough 1 = .ok (.getfield 11, 3) := by decide +kernel
theorem dX0_comeThrough_4 : decode cX0_comeThrough 4 = .ok (.iload_n 1, 1) := by decide +kernel
theorem dX0_comeThrough_5 : decode cX0_comeThrough 5 = .ok (.iconst 1, 1) := by decide +kernel
theorem dX0_comeThrough_6 : decode cX0_comeThrough 6 = .ok (.iadd, 1) := by decide +kernel
theorem dX0_comeThrough_7 : decode cX0_comeThrough 7 = .ok (.iaload, 1) := by decide +kernel
theorem dX0_comeThrough_8 : decode cX0_comeThrough 8 = .ok (.istore_n 3, 1) := by decide +kernel
theorem dX0_comeThrough_9 : decode cX0_comeThrough 9 = .ok (.aload_n 0, 1) := by decide +kernel
theorem dX0_comeThrough_10 : decode cX0_comeThrough 10 = .ok (.getfield 11, 3) := by decide +kernel
theorem dX0_comeThrough_13 : decode cX0_comeThrough 13 = .ok (.iload_n 1, 1) := by decide +kernel
theorem dX0_comeThrough_14 : decode cX0_comeThrough 14 = .ok (.iconst 4, 1) := by decide +kernel
theorem dX0_comeThrough_15 : decode cX0_comeThrough 15 = .ok (.iadd, 1) := by decide +kernel
theorem dX0_comeThrough_16 : decode cX0_comeThrough 16 = .ok (.iaload, 1) := by decide +kernel
theorem dX0_comeThrough_17 : decode cX0_comeThrough 17 = .ok (.iload_n 2, 1) := by decide +kernel
theorem dX0_comeThrough_18 : decode cX0_comeThrough 18 = .ok (.if_icmp .ne 36, 3) := by decide +kernel
theorem dX0_comeThrough_21 : decode cX0_comeThrough 21 = .ok (.iload_n 3, 1) := by decide +kernel
theorem dX0_comeThrough_22 : decode cX0_comeThrough 22 = .ok (.aload_n 0, 1) := by decide +kernel
theorem dX0_comeThrough_23 : decode cX0_comeThrough 23 = .ok (.getfield 11, 3) := by decide +kernel
theorem dX0_comeThrough_26 : decode cX0_comeThrough 26 = .ok (.iload_n 1, 1) := by decide +kernel
theorem dX0_comeThrough_27 : decode cX0_comeThrough 27 = .ok (.bipush 12, 2) := by decide +kernel
theorem dX0_comeThrough_29 : decode cX0_comeThrough 29 = .ok (.iadd, 1) := by decide +kernel
theorem dX0_comeThrough_30 : decode cX0_comeThrough 30 = .ok (.iaload, 1) := by decide +kernel
theorem dX0_comeThrough_31 : decode cX0_comeThrough 31 = .ok (.isub, 1) := by decide +kernel
theorem dX0_comeThrough_32 : decode cX0_comeThrough 32 = .ok (.aload_n 0, 1) := by decide +kernel
theorem dX0_comeThrough_33 : decode cX0_comeThrough 33 = .ok (.getfield 11, 3) := by decide +kernel
theorem dX0_comeThrough_36 : decode cX0_comeThrough 36 = .ok (.iconst 1, 1) := by decide +kernel
theorem dX0_comeThrough_37 : decode cX0_comeThrough 37 = .ok (.iaload, 1) := by decide +kernel
theorem dX0_comeThrough_38 : decode cX0_comeThrough 38 = .ok (.if_icmp .gt 16, 3) := by decide +kernel
theorem dX0_comeThrough_41 : decode cX0_comeThrough 41 = .ok (.aload_n 0, 1) := by decide +kernel
theorem dX0_comeThrough_42 : decode cX0_comeThrough 42 = .ok (.getfield 11, 3) := by decide +kernel
theorem dX0_comeThrough_45 : decode cX0_comeThrough 45 = .ok (.iload_n 1, 1) := by decide +kernel
theorem dX0_comeThrough_46 : decode cX0_comeThrough 46 = .ok (.bipush 10, 2) := by decide +kernel
theorem dX0_comeThrough_48 : decode cX0_comeThrough 48 = .ok (.iadd, 1) := by decide +kernel
theorem dX0_comeThrough_49 : decode cX0_comeThrough 49 = .ok (.dup2, 1) := by decide +kernel
theorem dX0_comeThrough_50 : decode cX0_comeThrough 50 = .ok (.iaload, 1) := by decide +kernel
theorem dX0_comeThrough_51 : decode cX0_comeThrough 51 = .ok (.iconst 1, 1) := by decide +kernel
theorem dX0_comeThrough_52 : decode cX0_comeThrough 52 = .ok (.iadd, 1) := by decide +kernel
theorem dX0_comeThrough_53 : decode cX0_comeThrough 53 = .ok (.iastore, 1) := by decide +kernel
theorem dX0_comeThrough_54 : decode cX0_comeThrough 54 = .ok (.aload_n 0, 1) := by decide +kernel
theorem dX0_comeThrough_55 : decode cX0_comeThrough 55 = .ok (.getfield 11, 3) := by decide +kernel
theorem dX0_comeThrough_58 : decode cX0_comeThrough 58 = .ok (.iload_n 1, 1) := by decide +kernel
theorem dX0_comeThrough_59 : decode cX0_comeThrough 59 = .ok (.iload_n 2, 1) := by decide +kernel
theorem dX0_comeThrough_60 : decode cX0_comeThrough 60 = .ok (.iadd, 1) := by decide +kernel
theorem dX0_comeThrough_61 : decode cX0_comeThrough 61 = .ok (.dup2, 1) := by decide +kernel
theorem dX0_comeThrough_62 : decode cX0_comeThrough 62 = .ok (.iaload, 1) := by decide +kernel
theorem dX0_comeThrough_63 : decode cX0_comeThrough 63 = .ok (.iconst 1, 1) := by decide +kernel
theorem dX0_comeThrough_64 : decode cX0_comeThrough 64 = .ok (.iadd, 1) := by decide +kernel
theorem dX0_comeThrough_65 : decode cX0_comeThrough 65 = .ok (.iastore, 1) := by decide +kernel
theorem dX0_comeThrough_66 : decode cX0_comeThrough 66 = .ok (.aload_n 0, 1) := by decide +kernel
theorem dX0_comeThrough_67 : decode cX0_comeThrough 67 = .ok (.getfield 11, 3) := by decide +kernel
theorem dX0_comeThrough_70 : decode cX0_comeThrough 70 = .ok (.iload_n 1, 1) := by decide +kernel
theorem dX0_comeThrough_71 : decode cX0_comeThrough 71 = .ok (.bipush 11, 2) := by decide +kernel
theorem dX0_comeThrough_73 : decode cX0_comeThrough 73 = .ok (.iadd, 1) := by decide +kernel
theorem dX0_comeThrough_74 : decode cX0_comeThrough 74 = .ok (.dup2, 1) := by decide +kernel
theorem dX0_comeThrough_75 : decode cX0_comeThrough 75 = .ok (.iaload, 1) := by decide +kernel
theorem dX0_comeThrough_76 : decode cX0_comeThrough 76 = .ok (.aload_n 0, 1) := by decide +kernel
theorem dX0_comeThrough_77 : decode cX0_comeThrough 77 = .ok (.getfield 11, 3) := by decide +kernel
theorem dX0_comeThrough_80 : decode cX0_comeThrough 80 = .ok (.iconst 3, 1) := by decide +kernel
theorem dX0_comeThrough_81 : decode cX0_comeThrough 81 = .ok (.iaload, 1) := by decide +kernel
theorem dX0_comeThrough_82 : decode cX0_comeThrough 82 = .ok (.iload_n 3, 1) := by decide +kernel
theorem dX0_comeThrough_83 : decode cX0_comeThrough 83 = .ok (.isub, 1) := by decide +kernel
theorem dX0_comeThrough_84 : decode cX0_comeThrough 84 = .ok (.iadd, 1) := by decide +kernel
theorem dX0_comeThrough_85 : decode cX0_comeThrough 85 = .ok (.iastore, 1) := by decide +kernel
theorem dX0_comeThrough_86 : decode cX0_comeThrough 86 = .ok (.aload_n 0, 1) := by decide +kernel
theorem dX0_comeThrough_87 : decode cX0_comeThrough 87 = .ok (.getfield 11, 3) := by decide +kernel
theorem dX0_comeThrough_90 : decode cX0_comeThrough 90 = .ok (.iload_n 1, 1) := by decide +kernel
theorem dX0_comeThrough_91 : decode cX0_comeThrough 91 = .ok (.iconst 4, 1) := by decide +kernel
theorem dX0_comeThrough_92 : decode cX0_comeThrough 92 = .ok (.iadd, 1) := by decide +kernel
theorem dX0_comeThrough_93 : decode cX0_comeThrough 93 = .ok (.iload_n 2, 1) := by decide +kernel
theorem dX0_comeThrough_94 : decode cX0_comeThrough 94 = .ok (.iastore, 1) := by decide +kernel
theorem dX0_comeThrough_95 : decode cX0_comeThrough 95 = .ok (.aload_n 0, 1) := by decide +kernel
theorem dX0_comeThrough_96 : decode cX0_comeThrough 96 = .ok (.getfield 11, 3) := by decide +kernel
theorem dX0_comeThrough_99 : decode cX0_comeThrough 99 = .ok (.iload_n 1, 1) := by decide +kernel
theorem dX0_comeThrough_100 : decode cX0_comeThrough 100 = .ok (.bipush 12, 2) := by decide +kernel
theorem dX0_comeThrough_102 : decode cX0_comeThrough 102 = .ok (.iadd, 1) := by decide +kernel
theorem dX0_comeThrough_103 : decode cX0_comeThrough 103 = .ok (.aload_n 0, 1) := by decide +kernel
theorem dX0_comeThrough_104 : decode cX0_comeThrough 104 = .ok (.getfield 11, 3) := by decide +kernel
theorem dX0_comeThrough_107 : decode cX0_comeThrough 107 = .ok (.iconst 3, 1) := by decide +kernel
theorem dX0_comeThrough_108 : decode cX0_comeThrough 108 = .ok (.iaload, 1) := by decide +kernel
theorem dX0_comeThrough_109 : decode cX0_comeThrough 109 = .ok (.iastore, 1) := by decide +kernel
theorem dX0_comeThrough_110 : decode cX0_comeThrough 110 = .ok (.return_, 1) := by decide +kernel
set_option maxRecDepth 20000 in
theorem ggX0_oneMoreInside_X0_becomeInside : GoodIn wsX0_oneMoreInside wsX0_becomeInside := goodIn_r _ [6, 1, 7] (by decide +kernel) (by decide +kernel)
set_option maxRecDepth 20000 in
theorem gX0_oneMoreInside_X0_becomeInside : GoodIn wsX0_oneMoreInside (wsV RX0 39 RX0 yX0_becomeInside wsX0_becomeInside) := goodIn_app (goodIn_of _ (by decide +kernel)) ggX0_oneMoreInside_X0_becomeInside
theorem dX0_oneMoreInside_0 : decode cX0_oneMoreInside 0 = .ok (.aload_n 0, 1) := by decide +kernel
theorem dX0_oneMoreInside_1 : decode cX0_oneMoreInside 1 = .ok (.aload_n 0, 1) := by decide +kernel
theorem dX0_oneMoreInside_2 : decode cX0_oneMoreInside 2 = .ok (.getfield 11, 3) := by decide +kernel
theorem dX0_oneMoreInside_5 : decode cX0_oneMoreInside 5 = .ok (.iconst 4, 1) := by decide +kernel
theorem dX0_oneMoreInside_6 : decode cX0_oneMoreInside 6 = .ok (.iaload, 1) := by decide +kernel
theorem dX0_oneMoreInside_7 : decode cX0_oneMoreInside 7 = .ok (.iconst 1, 1) := by decide +kernel
theorem dX0_oneMoreInside_8 : decode cX0_oneMoreInside 8 = .ok (.iadd, 1) := by decide +kernel
theorem dX0_oneMoreInside_9 : decode cX0_oneMoreInside 9 = .ok (.invokevirtual 39, 3) := by decide +kernel
theorem dX0_oneMoreInside_12 : decode cX0_oneMoreInside 12 = .ok (.aload_n 0, 1) := by decide +kernel
theorem dX0_oneMoreInside_13 : decode cX0_oneMoreInside 13 = .ok (.getfield 11, 3) := by decide +kernel
theorem dX0_oneMoreInside_16 : decode cX0_oneMoreInside 16 = .ok (.iconst 4, 1) := by decide +kernel
theorem dX0_oneMoreInside_17 : decode cX0_oneMoreInside 17 = .ok (.iaload, 1) := by decide +kernel
theorem dX0_oneMoreInside_18 : decode cX0_oneMoreInside 18 = .ok (.aload_n 0, 1) := by decide +kernel
theorem dX0_oneMoreInside_19 : decode cX0_oneMoreInside 19 = .ok (.getfield 11, 3) := by decide +kernel
theorem dX0_oneMoreInside_22 : decode cX0_oneMoreInside 22 = .ok (.iconst 2, 1) := by decide +kernel
theorem dX0_oneMoreInside_23 : decode cX0_oneMoreInside 23 = .ok (.iaload, 1) := by decide +kernel
theorem dX0_oneMoreInside_24 : decode cX0_oneMoreInside 24 = .ok (.if_icmp .le 14, 3) := by decide +kernel
theorem dX0_oneMoreInside_27 : decode cX0_oneMoreInside 27 = .ok (.aload_n 0, 1) := by decide +kernel
theorem dX0_oneMoreInside_28 : decode cX0_oneMoreInside 28 = .ok (.getfield 11, 3) := by decide +kernel
theorem dX0_oneMoreInside_31 : decode cX0_oneMoreInside 31 = .ok (.bipush 6, 2) := by decide +kernel
theorem dX0_oneMoreInside_33 : decode cX0_oneMoreInside 33 = .ok (.dup2, 1) := by decide +kernel
theorem dX0_oneMoreInside_34 : decode cX0_oneMoreInside 34 = .ok (.iaload, 1) := by decide +kernel
theorem dX0_oneMoreInside_35 : decode cX0_oneMoreInside 35 = .ok (.iconst 1, 1) := by decide +kernel
theorem dX0_oneMoreInside_36 : decode cX0_oneMoreInside 36 = .ok (.iadd, 1) := by decide +kernel
theorem dX0_oneMoreInside_37 : decode cX0_oneMoreInside 37 = .ok (.iastore, 1) := by decide +kernel
theorem dX0_oneMoreInside_38 : decode cX0_oneMoreInside 38 = .ok (.return_, 1) := by decide +kernel
theorem dX0_oneLessInside_0 : decode cX0_oneLessInside 0 = .ok (.aload_n 0, 1) := by decide +kernel
theorem dX0_oneLessInside_1 : decode cX0_oneLessInside 1 = .ok (.getfield 11, 3) := by decide +kernel
theorem dX0_oneLessInside_4 : decode cX0_oneLessInside 4 = .ok (.iconst 4, 1) := by decide +kernel
theorem dX0_oneLessInside_5 : decode cX0_oneLessInside 5 = .ok (.iaload, 1) := by decide +kernel
theorem dX0_oneLessInside_6 : decode cX0_oneLessInside 6 = .ok (.ifCond .le 16, 3) := by decide +kernel
theorem dX0_oneLessInside_9 : decode cX0_oneLessInside 9 = .ok (.aload_n 0, 1) := by decide +kernel
theorem dX0_oneLessInside_10 : decode cX0_oneLessInside 10 = .ok (.getfield 11, 3) := by decide +kernel
theorem dX0_oneLessInside_13 : decode cX0_oneLessInside 13 = .ok (.iconst 4, 1) := by decide +kernel
theorem dX0_oneLessInside_14 : decode cX0_oneLessInside 14 = .ok (.dup2, 1) := by decide +kernel
theorem dX0_oneLessInside_15 : decode cX0_oneLessInside 15 = .ok (.iaload, 1) := by decide +kernel
theorem dX0_oneLessInside_16 : decode cX0_oneLessInside 16 = .ok (.iconst 1, 1) := by decide +kernel
theorem dX0_oneLessInside_17 : decode cX0_oneLessInside 17 = .ok (.isub, 1) := by decide +kernel
theorem dX0_oneLessInside_18 : decode cX0_oneLessInside 18 = .ok (.iastore, 1) := by decide +kernel
theorem dX0_oneLessInside_19 : decode cX0_oneLessInside 19 = .ok (.goto 14, 3) := by decide +kernel
theorem dX0_oneLessInside_22 : decode cX0_oneLessInside 22 = .ok (.aload_n 0, 1) := by decide +kernel
theorem dX0_oneLessInside_23 : decode cX0_oneLessInside 23 = .ok (.getfield 11, 3) := by decide +kernel
theorem dX0_oneLessInside_26 : decode cX0_oneLessInside 26 = .ok (.bipush 7, 2) := by decide +kernel
theorem dX0_oneLessInside_28 : decode cX0_oneLessInside 28 = .ok (.dup2, 1) := by decide +kernel
theorem dX0_oneLessInside_29 : decode cX0_oneLessInside 29 = .ok (.iaload, 1) := by decide +kernel
theorem dX0_oneLessInside_30 : decode cX0_oneLessInside 30 = .ok (.iconst 1, 1) := by decide +kernel
theorem dX0_oneLessInside_31 : decode cX0_oneLessInside 31 = .ok (.iadd, 1) := by decide +kernel
theorem dX0_oneLessInside_32 : decode cX0_oneLessInside 32 = .ok (.iastore, 1) := by decide +kernel
theorem dX0_oneLessInside_33 : decode cX0_oneLessInside 33 = .ok (.return_, 1) := by decide +kernel
theorem dX0_becomeInside_0 : decode cX0_becomeInside 0 = .ok (.aload_n 0, 1) := by decide +kernel
theorem dX0_becomeInside_1 : decode cX0_becomeInside 1 = .ok (.getfield 11, 3) := by decide +kernel
theorem dX0_becomeInside_4 : decode cX0_becomeInside 4 = .ok (.iconst 4, 1) := by decide +kernel
theorem dX0_becomeInside_5 : decode cX0_becomeInside 5 = .ok (.iload_n 1, 1) := by decide +kernel
theorem dX0_becomeInside_6 : decode cX0_becomeInside 6 = .ok (.iastore, 1) := by decide +kernel
theorem dX0_becomeInside_7 : decode cX0_becomeInside 7 = .ok (.iload_n 1, 1) := by decide +kernel
theorem dX0_becomeInside_8 : decode cX0_becomeInside 8 = .ok (.aload_n 0, 1) := by decide +kernel
theorem dX0_becomeInside_9 : decode cX0_becomeInside 9 = .ok (.getfield 11, 3) := by decide +kernel
theorem dX0_becomeInside_12 : decode cX0_becomeInside 12 = .ok (.iconst 5, 1) := by decide +kernel
theorem dX0_becomeInside_13 : decode cX0_becomeInside 13 = .ok (.iaload, 1) := by decide +kernel
theorem dX0_becomeInside_14 : decode cX0_becomeInside 14 = .ok (.if_icmp .le 10, 3) := by decide +kernel
theorem dX0_becomeInside_17 : decode cX0_becomeInside 17 = .ok (.aload_n 0, 1) := by decide +kernel
theorem dX0_becomeInside_18 : decode cX0_becomeInside 18 = .ok (.getfield 11, 3) := by decide +kernel
theorem dX0_becomeInside_21 : decode cX0_becomeInside 21 = .ok (.iconst 5, 1) := by decide +kernel
theorem dX0_becomeInside_22 : decode cX0_becomeInside 22 = .ok (.iload_n 1, 1) := by decide +kernel
theorem dX0_becomeInside_23 : decode cX0_becomeInside 23 = .ok (.iastore, 1) := by decide +kernel
theorem dX0_becomeInside_24 : decode cX0_becomeInside 24 = .ok (.return_, 1) := by decide +kernel
theorem dX0_hasRoomFor_0 : decode cX0_hasRoomFor 0 = .ok (.aload_n 0, 1) := by decide +kernel
theorem dX0_hasRoomFor_1 : decode cX0_hasRoomFor 1 = .ok (.getfield 11, 3) := by decide +kernel
theorem dX0_hasRoomFor_4 : decode cX0_hasRoomFor 4 = .ok (.iconst 3, 1) := by decide +kernel
theorem dX0_hasRoomFor_5 : decode cX0_hasRoomFor 5 = .ok (.iaload, 1) := by decide +kernel
theorem dX0_hasRoomFor_6 : decode cX0_hasRoomFor 6 = .ok (.iload_n 1, 1) := by decide +kernel
theorem dX0_hasRoomFor_7 : decode cX0_hasRoomFor 7 = .ok (.iadd, 1) := by decide +kernel
theorem dX0_hasRoomFor_8 : decode cX0_hasRoomFor 8 = .ok (.ldc 42, 2) := by decide +kernel
theorem dX0_hasRoomFor_10 : decode cX0_hasRoomFor 10 = .ok (.if_icmp .gt 7, 3) := by decide +kernel
theorem dX0_hasRoomFor_13 : decode cX0_hasRoomFor 13 = .ok (.iconst 1, 1) := by decide +kernel
theorem dX0_hasRoomFor_14 : decode cX0_hasRoomFor 14 = .ok (.goto 4, 3) := by decide +kernel
theorem dX0_hasRoomFor_17 : decode cX0_hasRoomFor 17 = .ok (.iconst 0, 1) := by decide +kernel
theorem dX0_hasRoomFor_18 : decode cX0_hasRoomFor 18 = .ok (.ireturn, 1) := by decide +kernel
theorem dX0_goBy_0 : decode cX0_goBy 0 = .ok (.aload_n 0, 1) := by decide +kernel
theorem dX0_goBy_1 : decode cX0_goBy 1 = .ok (.getfield 11, 3) := by decide +kernel
theorem dX0_goBy_4 : decode cX0_goBy 4 = .ok (.iconst 3, 1) := by decide +kernel
theorem dX0_goBy_5 : decode cX0_goBy 5 = .ok (.dup2, 1) := by decide +kernel
theorem dX0_goBy_6 : decode cX0_goBy 6 = .ok (.iaload, 1) := by decide +kernel
theorem dX0_goBy_7 : decode cX0_goBy 7 = .ok (.iload_n 1, 1) := by decide +kernel
theorem dX0_goBy_8 : decode cX0_goBy 8 = .ok (.iadd, 1) := by decide +kernel
theorem dX0_goBy_9 : decode cX0_goBy 9 = .ok (.iastore, 1) := by decide +kernel
theorem dX0_goBy_10 : decode cX0_goBy 10 = .ok (.return_, 1) := by decide +kernel
set_option maxRecDepth 20000 in
theorem ggX0_isUnderWay_X0_partOf : GoodIn wsX0_isUnderWay wsX0_partOf := goodIn_r _ [5] (by decide +kernel) (by decide +kernel)
set_option maxRecDepth 20000 in
theorem gX0_isUnderWay_X0_partOf : GoodIn wsX0_isUnderWay (va_wsS RX0 15 yX0_partOf wsX0_partOf) := goodIn_app (goodIn_of _ (by decide +kernel)) ggX0_isUnderWay_X0_partOf
theorem dX0_isUnderWay_0 : decode cX0_isUnderWay 0 = .ok (.aload_n 0, 1) := by decide +kernel
theorem dX0_isUnderWay_1 : decode cX0_isUnderWay 1 = .ok (.getfield 11, 3) := by decide +kernel
theorem dX0_isUnderWay_4 : decode cX0_isUnderWay 4 = .ok (.iload_n 1, 1) := by decide +kernel
theorem dX0_isUnderWay_5 : decode cX0_isUnderWay 5 = .ok (.invokestatic 15, 3) := by decide +kernel
theorem dX0_isUnderWay_8 : decode cX0_isUnderWay 8 = .ok (.iconst 0, 1) := by decide +kernel
theorem dX0_isUnderWay_9 : decode cX0_isUnderWay 9 = .ok (.iadd, 1) := by decide +kernel
theorem dX0_isUnderWay_10 : decode cX0_isUnderWay 10 = .ok (.iaload, 1) := by decide +kernel
theorem dX0_isUnderWay_11 : decode cX0_isUnderWay 11 = .ok (.ifCond .eq 7, 3) := by decide +kernel
theorem dX0_isUnderWay_14 : decode cX0_isUnderWay 14 = .ok (.iconst 1, 1) := by decide +kernel
theorem dX0_isUnderWay_15 : decode cX0_isUnderWay 15 = .ok (.goto 4, 3) := by decide +kernel
theorem dX0_isUnderWay_18 : decode cX0_isUnderWay 18 = .ok (.iconst 0, 1) := by decide +kernel
theorem dX0_isUnderWay_19 : decode cX0_isUnderWay 19 = .ok (.ireturn, 1) := by decide +kernel
set_option maxRecDepth 20000 in
theorem ggX0_isSure_X0_partOf : GoodIn wsX0_isSure wsX0_partOf := goodIn_r _ [5] (by decide +kernel) (by decide +kernel)
set_option maxRecDepth 20000 in
theorem gX0_isSure_X0_partOf : GoodIn wsX0_isSure (va_wsS RX0 15 yX0_partOf wsX0_partOf) := goodIn_app (goodIn_of _ (by decide +kernel)) ggX0_isSure_X0_partOf
theorem dX0_isSure_0 : decode cX0_isSure 0 = .ok (.aload_n 0, 1) := by decide +kernel
theorem dX0_isSure_1 : decode cX0_isSure 1 = .ok (.getfield 11, 3) := by decide +kernel
theorem dX0_isSure_4 : decode cX0_isSure 4 = .ok (.iload_n 1, 1) := by decide +kernel
theorem dX0_isSure_5 : decode cX0_isSure 5 = .ok (.invokestatic 15, 3) := by decide +kernel
theorem dX0_isSure_8 : decode cX0_isSure 8 = .ok (.iconst 3, 1) := by decide +kernel
theorem dX0_isSure_9 : decode cX0_isSure 9 = .ok (.iadd, 1) := by decide +kernel
theorem dX0_isSure_10 : decode cX0_isSure 10 = .ok (.iaload, 1) := by decide +kernel
theorem dX0_isSure_11 : decode cX0_isSure 11 = .ok (.ifCond .eq 7, 3) := by decide +kernel
theorem dX0_isSure_14 : decode cX0_isSure 14 = .ok (.iconst 1, 1) := by decide +kernel
theorem dX0_isSure_15 : decode cX0_isSure 15 = .ok (.goto 4, 3) := by decide +kernel
theorem dX0_isSure_18 : decode cX0_isSure 18 = .ok (.iconst 0, 1) := by decide +kernel
theorem dX0_isSure_19 : decode cX0_isSure 19 = .ok (.ireturn, 1) := by decide +kernel
set_option maxRecDepth 20000 in
theorem ggX0_placeOf_X0_partOf : GoodIn wsX0_placeOf wsX0_partOf := goodIn_r _ [5] (by decide +kernel) (by decide +kernel)
set_option maxRecDepth 20000 in
theorem gX0_placeOf_X0_partOf : GoodIn wsX0_placeOf (va_wsS RX0 15 yX0_partOf wsX0_partOf) := goodIn_app (goodIn_of _ (by decide +kernel)) ggX0_placeOf_X0_partOf
theorem dX0_placeOf_0 : decode cX0_placeOf 0 = .ok (.aload_n 0, 1) := by decide +kernel
theorem dX0_placeOf_1 : decode cX0_placeOf 1 = .ok (.getfield 11, 3) := by decide +kernel
theorem dX0_placeOf_4 : decode cX0_placeOf 4 = .ok (.iload_n 1, 1) := by decide +kernel
theorem dX0_placeOf_5 : decode cX0_placeOf 5 = .ok (.invokestatic 15, 3) := by decide +kernel
theorem dX0_placeOf_8 : decode cX0_placeOf 8 = .ok (.iconst 2, 1) := by decide +kernel
theorem dX0_placeOf_9 : decode cX0_placeOf 9 = .ok (.iadd, 1) := by decide +kernel
theorem dX0_placeOf_10 : decode cX0_placeOf 10 = .ok (.iaload, 1) := by decide +kernel
theorem dX0_placeOf_11 : decode cX0_placeOf 11 = .ok (.ireturn, 1) := by decide +kernel
set_option maxRecDepth 20000 in
theorem ggX0_ticksUnderWay_X0_partOf : GoodIn wsX0_ticksUnderWay wsX0_partOf := goodIn_r _ [5] (by decide +kernel) (by decide +kernel)
set_option maxRecDepth 20000 in
theorem gX0_ticksUnderWay_X0_partOf : GoodIn wsX0_ticksUnderWay (va_wsS RX0 15 yX0_partOf wsX0_partOf) := goodIn_app (goodIn_of _ (by decide +kernel)) ggX0_ticksUnderWay_X0_partOf
theorem dX0_ticksUnderWay_0 : decode cX0_ticksUnderWay 0 = .ok (.aload_n 0, 1) := by decide +kernel
theorem dX0_ticksUnderWay_1 : decode cX0_ticksUnderWay 1 = .ok (.getfield 11, 3) := by decide +kernel
theorem dX0_ticksUnderWay_4 : decode cX0_ticksUnderWay 4 = .ok (.iconst 3, 1) := by decide +kernel
theorem dX0_ticksUnderWay_5 : decode cX0_ticksUnderWay 5 = .ok (.iaload, 1) := by decide +kernel
theorem dX0_ticksUnderWay_6 : decode cX0_ticksUnderWay 6 = .ok (.aload_n 0, 1) := by decide +kernel
theorem dX0_ticksUnderWay_7 : decode cX0_ticksUnderWay 7 = .ok (.getfield 11, 3) := by decide +kernel
theorem dX0_ticksUnderWay_10 : decode cX0_ticksUnderWay 10 = .ok (.iload_n 1, 1) := by decide +kernel
theorem dX0_ticksUnderWay_11 : decode cX0_ticksUnderWay 11 = .ok (.invokestatic 15, 3) := by decide +kernel
theorem dX0_ticksUnderWay_14 : decode cX0_ticksUnderWay 14 = .ok (.iconst 1, 1) := by decide +kernel
theorem dX0_ticksUnderWay_15 : decode cX0_ticksUnderWay 15 = .ok (.iadd, 1) := by decide +kernel
theorem dX0_ticksUnderWay_16 : decode cX0_ticksUnderWay 16 = .ok (.iaload, 1) := by decide +kernel
theorem dX0_ticksUnderWay_17 : decode cX0_ticksUnderWay 17 = .ok (.isub, 1) := by decide +kernel
theorem dX0_ticksUnderWay_18 : decode cX0_ticksUnderWay 18 = .ok (.ireturn, 1) := by decide +kernel
set_option maxRecDepth 20000 in
theorem ggX0_isBlocked_X0_isUnderWay : GoodIn wsX0_isBlocked wsX0_isUnderWay := goodIn_r _ [6, 1, 7, 8, 5, 9, 14] (by decide +kernel) (by decide +kernel)
set_option maxRecDepth 20000 in
theorem gX0_isBlocked_X0_isUnderWay : GoodIn wsX0_isBlocked (wsV RX0 43 RX0 yX0_isUnderWay wsX0_isUnderWay) := goodIn_app (goodIn_of _ (by decide +kernel)) ggX0_isBlocked_X0_isUnderWay
set_option maxRecDepth 20000 in
theorem ggX0_isBlocked_X0_ticksUnderWay : GoodIn wsX0_isBlocked wsX0_ticksUnderWay := goodIn_r _ [13, 1, 7, 8, 5, 9, 14] (by decide +kernel) (by decide +kernel)
set_option maxRecDepth 20000 in
theorem gX0_isBlocked_X0_ticksUnderWay : GoodIn wsX0_isBlocked (wsV RX0 47 RX0 yX0_ticksUnderWay wsX0_ticksUnderWay) := goodIn_app (goodIn_of _ (by decide +kernel)) ggX0_isBlocked_X0_ticksUnderWay
theorem dX0_isBlocked_0 : decode cX0_isBlocked 0 = .ok (.aload_n 0, 1) := by decide +kernel
theorem dX0_isBlocked_1 : decode cX0_isBlocked 1 = .ok (.iload_n 1, 1) := by decide +kernel
theorem dX0_isBlocked_2 : decode cX0_isBlocked 2 = .ok (.invokevirtual 43, 3) := by decide +kernel
theorem dX0_isBlocked_5 : decode cX0_isBlocked 5 = .ok (.ifCond .eq 21, 3) := by decide +kernel
theorem dX0_isBlocked_8 : decode cX0_isBlocked 8 = .ok (.aload_n 0, 1) := by decide +kernel
theorem dX0_isBlocked_9 : decode cX0_isBlocked 9 = .ok (.iload_n 1, 1) := by decide +kernel
theorem dX0_isBlocked_10 : decode cX0_isBlocked 10 = .ok (.invokevirtual 47, 3) := by decide +kernel
theorem dX0_isBlocked_13 : decode cX0_isBlocked 13 = .ok (.aload_n 0, 1) := by decide +kernel
theorem dX0_isBlocked_14 : decode cX0_isBlocked 14 = .ok (.getfield 11, 3) := by decide +kernel
theorem dX0_isBlocked_17 : decode cX0_isBlocked 17 = .ok (.iconst 0, 1) := by decide +kernel
theorem dX0_isBlocked_18 : decode cX0_isBlocked 18 = .ok (.iaload, 1) := by decide +kernel
theorem dX0_isBlocked_19 : decode cX0_isBlocked 19 = .ok (.if_icmp .lt 7, 3) := by decide +kernel
theorem dX0_isBlocked_22 : decode cX0_isBlocked 22 = .ok (.iconst 1, 1) := by decide +kernel
theorem dX0_isBlocked_23 : decode cX0_isBlocked 23 = .ok (.goto 4, 3) := by decide +kernel
theorem dX0_isBlocked_26 : decode cX0_isBlocked 26 = .ok (.iconst 0, 1) := by decide +kernel
theorem dX0_isBlocked_27 : decode cX0_isBlocked 27 = .ok (.ireturn, 1) := by decide +kernel
set_option maxRecDepth 20000 in
theorem ggX0_blockedMask_X0_isBlocked : GoodIn wsX0_blockedMask wsX0_isBlocked := goodIn_r _ [5, 6, 7, 8, 9, 4, 10, 11, 12, 13, 14, 15, 16, 17, 18] (by decide +kernel) (by decide +kernel)
set_option maxRecDepth 20000 in
theorem gX0_blockedMask_X0_isBlocked : GoodIn wsX0_blockedMask (wsV RX0 50 RX0 yX0_isBlocked wsX0_isBlocked) := goodIn_app (goodIn_of _ (by decide +kernel)) ggX0_blockedMask_X0_isBlocked
theorem dX0_blockedMask_0 : decode cX0_blockedMask 0 = .ok (.iconst 0, 1) := by decide +kernel
theorem dX0_blockedMask_1 : decode cX0_blockedMask 1 = .ok (.istore_n 1, 1) := by decide +kernel
theorem dX0_blockedMask_2 : decode cX0_blockedMask 2 = .ok (.iconst 0, 1) := by decide +kernel
theorem dX0_blockedMask_3 : decode cX0_blockedMask 3 = .ok (.istore_n 2, 1) := by decide +kernel
theorem dX0_blockedMask_4 : decode cX0_blockedMask 4 = .ok (.iload_n 2, 1) := by decide +kernel
theorem dX0_blockedMask_5 : decode cX0_blockedMask 5 = .ok (.bipush 6, 2) := by decide +kernel
theorem dX0_blockedMask_7 : decode cX0_blockedMask 7 = .ok (.if_icmp .ge 23, 3) := by decide +kernel
theorem dX0_blockedMask_10 : decode cX0_blockedMask 10 = .ok (.aload_n 0, 1) := by decide +kernel
theorem dX0_blockedMask_11 : decode cX0_blockedMask 11 = .ok (.iload_n 2, 1) := by decide +kernel
theorem dX0_blockedMask_12 : decode cX0_blockedMask 12 = .ok (.invokevirtual 50, 3) := by decide +kernel
theorem dX0_blockedMask_15 : decode cX0_blockedMask 15 = .ok (.ifCond .eq 9, 3) := by decide +kernel
theorem dX0_blockedMask_18 : decode cX0_blockedMask 18 = .ok (.iload_n 1, 1) := by decide +kernel
theorem dX0_blockedMask_19 : decode cX0_blockedMask 19 = .ok (.iconst 1, 1) := by decide +kernel
theorem dX0_blockedMask_20 : decode cX0_blockedMask 20 = .ok (.iload_n 2, 1) := by decide +kernel
theorem dX0_blockedMask_21 : decode cX0_blockedMask 21 = .ok (.ishl, 1) := by decide +kernel
theorem dX0_blockedMask_22 : decode cX0_blockedMask 22 = .ok (.ior, 1) := by decide +kernel
theorem dX0_blockedMask_23 : decode cX0_blockedMask 23 = .ok (.istore_n 1, 1) := by decide +kernel
theorem dX0_blockedMask_24 : decode cX0_blockedMask 24 = .ok (.iinc 2 1, 3) := by decide +kernel
theorem dX0_blockedMask_27 : decode cX0_blockedMask 27 = .ok (.goto (-23), 3) := by decide +kernel
theorem dX0_blockedMask_30 : decode cX0_blockedMask 30 = .ok (.iload_n 1, 1) := by decide +kernel
theorem dX0_blockedMask_31 : decode cX0_blockedMask 31 = .ok (.ireturn, 1) := by decide +kernel
set_option maxRecDepth 20000 in
theorem ggX0_underWayMask_X0_isUnderWay : GoodIn wsX0_underWayMask wsX0_isUnderWay := goodIn_r _ [5, 6, 7, 8, 4, 9, 10] (by decide +kernel) (by decide +kernel)
set_option maxRecDepth 20000 in
theorem gX0_underWayMask_X0_isUnderWay : GoodIn wsX0_underWayMask (wsV RX0 43 RX0 yX0_isUnderWay wsX0_isUnderWay) := goodIn_app (goodIn_of _ (by decide +kernel)) ggX0_underWayMask_X0_isUnderWay
theorem dX0_underWayMask_0 : decode cX0_underWayMask 0 = .ok (.iconst 0, 1) := by decide +kernel
theorem dX0_underWayMask_1 : decode cX0_underWayMask 1 = .ok (.istore_n 1, 1) := by decide +kernel
theorem dX0_underWayMask_2 : decode cX0_underWayMask 2 = .ok (.iconst 0, 1) := by decide +kernel
theorem dX0_underWayMask_3 : decode cX0_underWayMask 3 = .ok (.istore_n 2, 1) := by decide +kernel
theorem dX0_underWayMask_4 : decode cX0_underWayMask 4 = .ok (.iload_n 2, 1) := by decide +kernel
theorem dX0_underWayMask_5 : decode cX0_underWayMask 5 = .ok (.bipush 6, 2) := by decide +kernel
theorem dX0_underWayMask_7 : decode cX0_underWayMask 7 = .ok (.if_icmp .ge 23, 3) := by decide +kernel
theorem dX0_underWayMask_10 : decode cX0_underWayMask 10 = .ok (.aload_n 0, 1) := by decide +kernel
theorem dX0_underWayMask_11 : decode cX0_underWayMask 11 = .ok (.iload_n 2, 1) := by decide +kernel
theorem dX0_underWayMask_12 : decode cX0_underWayMask 12 = .ok (.invokevirtual 43, 3) := by decide +kernel
theorem dX0_underWayMask_15 : decode cX0_underWayMask 15 = .ok (.ifCond .eq 9, 3) := by decide +kernel
theorem dX0_underWayMask_18 : decode cX0_underWayMask 18 = .ok (.iload_n 1, 1) := by decide +kernel
theorem dX0_underWayMask_19 : decode cX0_underWayMask 19 = .ok (.iconst 1, 1) := by decide +kernel
theorem dX0_underWayMask_20 : decode cX0_underWayMask 20 = .ok (.iload_n 2, 1) := by decide +kernel
theorem dX0_underWayMask_21 : decode cX0_underWayMask 21 = .ok (.ishl, 1) := by decide +kernel
theorem dX0_underWayMask_22 : decode cX0_underWayMask 22 = .ok (.ior, 1) := by decide +kernel
theorem dX0_underWayMask_23 : decode cX0_underWayMask 23 = .ok (.istore_n 1, 1) := by decide +kernel
theorem dX0_underWayMask_24 : decode cX0_underWayMask 24 = .ok (.iinc 2 1, 3) := by decide +kernel
theorem dX0_underWayMask_27 : decode cX0_underWayMask 27 = .ok (.goto (-23), 3) := by decide +kernel
theorem dX0_underWayMask_30 : decode cX0_underWayMask 30 = .ok (.iload_n 1, 1) := by decide +kernel
theorem dX0_underWayMask_31 : decode cX0_underWayMask 31 = .ok (.ireturn, 1) := by decide +kernel
set_option maxRecDepth 20000 in
theorem ggX0_sumOfGates_X0_partOf : GoodIn wsX0_sumOfGates wsX0_partOf := goodIn_r _ [5] (by decide +kernel) (by decide +kernel)
set_option maxRecDepth 20000 in
theorem gX0_sumOfGates_X0_partOf : GoodIn wsX0_sumOfGates (va_wsS RX0 15 yX0_partOf wsX0_partOf) := goodIn_app (goodIn_of _ (by decide +kernel)) ggX0_sumOfGates_X0_partOf
theorem dX0_sumOfGates_0 : decode cX0_sumOfGates 0 = .ok (.iconst 0, 1) := by decide +kernel
theorem dX0_sumOfGates_1 : decode cX0_sumOfGates 1 = .ok (.istore_n 2, 1) := by decide +kernel
theorem dX0_sumOfGates_2 : decode cX0_sumOfGates 2 = .ok (.iconst 0, 1) := by decide +kernel
theorem dX0_sumOfGates_3 : decode cX0_sumOfGates 3 = .ok (.istore_n 3, 1) := by decide +kernel
theorem dX0_sumOfGates_4 : decode cX0_sumOfGates 4 = .ok (.iload_n 3, 1) := by decide +kernel
theorem dX0_sumOfGates_5 : decode cX0_sumOfGates 5 = .ok (.bipush 6, 2) := by decide +kernel
theorem dX0_sumOfGates_7 : decode cX0_sumOfGates 7 = .ok (.if_icmp .ge 23, 3) := by decide +kernel
theorem dX0_sumOfGates_10 : decode cX0_sumOfGates 10 = .ok (.iload_n 2, 1) := by decide +kernel
theorem dX0_sumOfGates_11 : decode cX0_sumOfGates 11 = .ok (.aload_n 0, 1) := by decide +kernel
theorem dX0_sumOfGates_12 : decode cX0_sumOfGates 12 = .ok (.getfield 11, 3) := by decide +kernel
theorem dX0_sumOfGates_15 : decode cX0_sumOfGates 15 = .ok (.iload_n 3, 1) := by decide +kernel
theorem dX0_sumOfGates_16 : decode cX0_sumOfGates 16 = .ok (.invokestatic 15, 3) := by decide +kernel
theorem dX0_sumOfGates_19 : decode cX0_sumOfGates 19 = .ok (.iload_n 1, 1) := by decide +kernel
theorem dX0_sumOfGates_20 : decode cX0_sumOfGates 20 = .ok (.iadd, 1) := by decide +kernel
theorem dX0_sumOfGates_21 : decode cX0_sumOfGates 21 = .ok (.iaload, 1) := by decide +kernel
theorem dX0_sumOfGates_22 : decode cX0_sumOfGates 22 = .ok (.iadd, 1) := by decide +kernel
theorem dX0_sumOfGates_23 : decode cX0_sumOfGates 23 = .ok (.istore_n 2, 1) := by decide +kernel
theorem dX0_sumOfGates_24 : decode cX0_sumOfGates 24 = .ok (.iinc 3 1, 3) := by decide +kernel
theorem dX0_sumOfGates_27 : decode cX0_sumOfGates 27 = .ok (.goto (-23), 3) := by decide +kernel
theorem dX0_sumOfGates_30 : decode cX0_sumOfGates 30 = .ok (.iload_n 2, 1) := by decide +kernel
theorem dX0_sumOfGates_31 : decode cX0_sumOfGates 31 = .ok (.ireturn, 1) := by decide +kernel
set_option maxRecDepth 20000 in
theorem ggX0_passagesThrough_X0_partOf : GoodIn wsX0_passagesThrough wsX0_partOf := goodIn_r _ [5] (by decide +kernel) (by decide +kernel)
set_option maxRecDepth 20000 in
theorem gX0_passagesThrough_X0_partOf : GoodIn wsX0_passagesThrough (va_wsS RX0 15 yX0_partOf wsX0_partOf) := goodIn_app (goodIn_of _ (by decide +kernel)) ggX0_passagesThrough_X0_partOf
theorem dX0_passagesThrough_0 : decode cX0_passagesThrough 0 = .ok (.iload_n 1, 1) := by decide +kernel
theorem dX0_passagesThrough_1 : decode cX0_passagesThrough 1 = .ok (.invokestatic 15, 3) := by decide +kernel
theorem dX0_passagesThrough_4 : decode cX0_passagesThrough 4 = .ok (.istore_n 2, 1) := by decide +kernel
theorem dX0_passagesThrough_5 : decode cX0_passagesThrough 5 = .ok (.aload_n 0, 1) := by decide +kernel
theorem dX0_passagesThrough_6 : decode cX0_passagesThrough 6 = .ok (.getfield 11, 3) := by decide +kernel
theorem dX0_passagesThrough_9 : decode cX0_passagesThrough 9 = .ok (.iload_n 2, 1) := by decide +kernel
theorem dX0_passagesThrough_10 : decode cX0_passagesThrough 10 = .ok (.iconst 5, 1) := by decide +kernel
theorem dX0_passagesThrough_11 : decode cX0_passagesThrough 11 = .ok (.iadd, 1) := by decide +kernel
theorem dX0_passagesThrough_12 : decode cX0_passagesThrough 12 = .ok (.iaload, 1) := by decide +kernel
theorem dX0_passagesThrough_13 : decode cX0_passagesThrough 13 = .ok (.aload_n 0, 1) := by decide +kernel
theorem dX0_passagesThrough_14 : decode cX0_passagesThrough 14 = .ok (.getfield 11, 3) := by decide +kernel
theorem dX0_passagesThrough_17 : decode cX0_passagesThrough 17 = .ok (.iload_n 2, 1) := by decide +kernel
theorem dX0_passagesThrough_18 : decode cX0_passagesThrough 18 = .ok (.bipush 6, 2) := by decide +kernel
theorem dX0_passagesThrough_20 : decode cX0_passagesThrough 20 = .ok (.iadd, 1) := by decide +kernel
theorem dX0_passagesThrough_21 : decode cX0_passagesThrough 21 = .ok (.iaload, 1) := by decide +kernel
theorem dX0_passagesThrough_22 : decode cX0_passagesThrough 22 = .ok (.iadd, 1) := by decide +kernel
theorem dX0_passagesThrough_23 : decode cX0_passagesThrough 23 = .ok (.ireturn, 1) := by decide +kernel
set_option maxRecDepth 20000 in
theorem ggX0_tell_X0_isUnderWay : GoodIn wsX0_tell wsX0_isUnderWay := goodIn_r _ [6, 1, 7, 8, 5, 9, 26] (by decide +kernel) (by decide +kernel)
set_option maxRecDepth 20000 in
theorem gX0_tell_X0_isUnderWay : GoodIn wsX0_tell (wsV RX0 43 RX0 yX0_isUnderWay wsX0_isUnderWay) := goodIn_app (goodIn_of _ (by decide +kernel)) ggX0_tell_X0_isUnderWay
set_option maxRecDepth 20000 in
theorem ggX0_tell_X0_partOf : GoodIn wsX0_tell wsX0_partOf := goodIn_r _ [9] (by decide +kernel) (by decide +kernel)
set_option maxRecDepth 20000 in
theorem gX0_tell_X0_partOf : GoodIn wsX0_tell (va_wsS RX0 15 yX0_partOf wsX0_partOf) := goodIn_app (goodIn_of _ (by decide +kernel)) ggX0_tell_X0_partOf
set_option maxRecDepth 20000 in
theorem ggX0_tell_X0_isSure : GoodIn wsX0_tell wsX0_isSure := goodIn_r _ [13, 1, 7, 8, 5, 9, 26] (by decide +kernel) (by decide +kernel)
set_option maxRecDepth 20000 in
theorem gX0_tell_X0_isSure : GoodIn wsX0_tell (wsV RX0 53 RX0 yX0_isSure wsX0_isSure) := goodIn_app (goodIn_of _ (by decide +kernel)) ggX0_tell_X0_isSure
set_option maxRecDepth 20000 in
theorem ggX0_tell_X0_placeOf : GoodIn wsX0_tell wsX0_placeOf := goodIn_r _ [17, 1, 7, 8, 5, 9, 26] (by decide +kernel) (by decide +kernel)
set_option maxRecDepth 20000 in
theorem gX0_tell_X0_placeOf : GoodIn wsX0_tell (wsV RX0 56 RX0 yX0_placeOf wsX0_placeOf) := goodIn_app (goodIn_of _ (by decide +kernel)) ggX0_tell_X0_placeOf
set_option maxRecDepth 20000 in
theorem ggX0_tell_X0_isBlocked : GoodIn wsX0_tell wsX0_isBlocked := goodIn_r _ [21, 1, 2, 3, 4, 5, 6, 7, 8, 9, 22, 23, 24, 25, 26] (by decide +kernel) (by decide +kernel)
set_option maxRecDepth 20000 in
theorem gX0_tell_X0_isBlocked : GoodIn wsX0_tell (wsV RX0 50 RX0 yX0_isBlocked wsX0_isBlocked) := goodIn_app (goodIn_of _ (by decide +kernel)) ggX0_tell_X0_isBlocked
theorem dX0_tell_0 : decode cX0_tell 0 = .ok (.iload_n 2, 1) := by decide +kernel
theorem dX0_tell_1 : decode cX0_tell 1 = .ok (.tableswitch 124 1 4 #[31, 56, 85, 110], 31) := by decide +kernel
theorem dX0_tell_32 : decode cX0_tell 32 = .ok (.aload_n 0, 1) := by decide +kernel
theorem dX0_tell_33 : decode cX0_tell 33 = .ok (.iload_n 1, 1) := by decide +kernel
theorem dX0_tell_34 : decode cX0_tell 34 = .ok (.invokevirtual 43, 3) := by decide +kernel
theorem dX0_tell_37 : decode cX0_tell 37 = .ok (.ifCond .eq 17, 3) := by decide +kernel
theorem dX0_tell_40 : decode cX0_tell 40 = .ok (.aload_n 0, 1) := by decide +kernel
theorem dX0_tell_41 : decode cX0_tell 41 = .ok (.getfield 11, 3) := by decide +kernel
theorem dX0_tell_44 : decode cX0_tell 44 = .ok (.iload_n 1, 1) := by decide +kernel
theorem dX0_tell_45 : decode cX0_tell 45 = .ok (.invokestatic 15, 3) := by decide +kernel
theorem dX0_tell_48 : decode cX0_tell 48 = .ok (.iconst 1, 1) := by decide +kernel
theorem dX0_tell_49 : decode cX0_tell 49 = .ok (.iadd, 1) := by decide +kernel
theorem dX0_tell_50 : decode cX0_tell 50 = .ok (.iaload, 1) := by decide +kernel
theorem dX0_tell_51 : decode cX0_tell 51 = .ok (.goto 5, 3) := by decide +kernel
theorem dX0_tell_54 : decode cX0_tell 54 = .ok (.bipush (-6), 2) := by decide +kernel
theorem dX0_tell_56 : decode cX0_tell 56 = .ok (.ireturn, 1) := by decide +kernel
theorem dX0_tell_57 : decode cX0_tell 57 = .ok (.aload_n 0, 1) := by decide +kernel
theorem dX0_tell_58 : decode cX0_tell 58 = .ok (.iload_n 1, 1) := by decide +kernel
theorem dX0_tell_59 : decode cX0_tell 59 = .ok (.invokevirtual 43, 3) := by decide +kernel
theorem dX0_tell_62 : decode cX0_tell 62 = .ok (.ifCond .eq 21, 3) := by decide +kernel
theorem dX0_tell_65 : decode cX0_tell 65 = .ok (.aload_n 0, 1) := by decide +kernel
theorem dX0_tell_66 : decode cX0_tell 66 = .ok (.iload_n 1, 1) := by decide +kernel
theorem dX0_tell_67 : decode cX0_tell 67 = .ok (.invokevirtual 53, 3) := by decide +kernel
theorem dX0_tell_70 : decode cX0_tell 70 = .ok (.ifCond .eq 13, 3) := by decide +kernel
theorem dX0_tell_73 : decode cX0_tell 73 = .ok (.aload_n 0, 1) := by decide +kernel
theorem dX0_tell_74 : decode cX0_tell 74 = .ok (.iload_n 1, 1) := by decide +kernel
theorem dX0_tell_75 : decode cX0_tell 75 = .ok (.invokevirtual 56, 3) := by decide +kernel
theorem dX0_tell_78 : decode cX0_tell 78 = .ok (.iconst 4, 1) := by decide +kernel
theorem dX0_tell_79 : decode cX0_tell 79 = .ok (.iadd, 1) := by decide +kernel
theorem dX0_tell_80 : decode cX0_tell 80 = .ok (.goto 5, 3) := by decide +kernel
theorem dX0_tell_83 : decode cX0_tell 83 = .ok (.bipush (-6), 2) := by decide +kernel
theorem dX0_tell_85 : decode cX0_tell 85 = .ok (.ireturn, 1) := by decide +kernel
theorem dX0_tell_86 : decode cX0_tell 86 = .ok (.aload_n 0, 1) := by decide +kernel
theorem dX0_tell_87 : decode cX0_tell 87 = .ok (.iload_n 1, 1) := by decide +kernel
theorem dX0_tell_88 : decode cX0_tell 88 = .ok (.invokevirtual 43, 3) := by decide +kernel
theorem dX0_tell_91 : decode cX0_tell 91 = .ok (.ifCond .eq 17, 3) := by decide +kernel
theorem dX0_tell_94 : decode cX0_tell 94 = .ok (.aload_n 0, 1) := by decide +kernel
theorem dX0_tell_95 : decode cX0_tell 95 = .ok (.getfield 11, 3) := by decide +kernel
theorem dX0_tell_98 : decode cX0_tell 98 = .ok (.iload_n 1, 1) := by decide +kernel
theorem dX0_tell_99 : decode cX0_tell 99 = .ok (.invokestatic 15, 3) := by decide +kernel
theorem dX0_tell_102 : decode cX0_tell 102 = .ok (.iconst 3, 1) := by decide +kernel
theorem dX0_tell_103 : decode cX0_tell 103 = .ok (.iadd, 1) := by decide +kernel
theorem dX0_tell_104 : decode cX0_tell 104 = .ok (.iaload, 1) := by decide +kernel
theorem dX0_tell_105 : decode cX0_tell 105 = .ok (.goto 5, 3) := by decide +kernel
theorem dX0_tell_108 : decode cX0_tell 108 = .ok (.bipush (-6), 2) := by decide +kernel
theorem dX0_tell_110 : decode cX0_tell 110 = .ok (.ireturn, 1) := by decide +kernel
theorem dX0_tell_111 : decode cX0_tell 111 = .ok (.aload_n 0, 1) := by decide +kernel
theorem dX0_tell_112 : decode cX0_tell 112 = .ok (.iload_n 1, 1) := by decide +kernel
theorem dX0_tell_113 : decode cX0_tell 113 = .ok (.invokevirtual 50, 3) := by decide +kernel
theorem dX0_tell_116 : decode cX0_tell 116 = .ok (.ifCond .eq 7, 3) := by decide +kernel
theorem dX0_tell_119 : decode cX0_tell 119 = .ok (.iconst 1, 1) := by decide +kernel
theorem dX0_tell_120 : decode cX0_tell 120 = .ok (.goto 4, 3) := by decide +kernel
theorem dX0_tell_123 : decode cX0_tell 123 = .ok (.iconst 0, 1) := by decide +kernel
theorem dX0_tell_124 : decode cX0_tell 124 = .ok (.ireturn, 1) := by decide +kernel
theorem dX0_tell_125 : decode cX0_tell 125 = .ok (.aload_n 0, 1) := by decide +kernel
theorem dX0_tell_126 : decode cX0_tell 126 = .ok (.getfield 11, 3) := by decide +kernel
theorem dX0_tell_129 : decode cX0_tell 129 = .ok (.iload_n 1, 1) := by decide +kernel
theorem dX0_tell_130 : decode cX0_tell 130 = .ok (.invokestatic 15, 3) := by decide +kernel
theorem dX0_tell_133 : decode cX0_tell 133 = .ok (.iload_n 2, 1) := by decide +kernel
theorem dX0_tell_134 : decode cX0_tell 134 = .ok (.iadd, 1) := by decide +kernel
theorem dX0_tell_135 : decode cX0_tell 135 = .ok (.iaload, 1) := by decide +kernel
theorem dX0_tell_136 : decode cX0_tell 136 = .ok (.ireturn, 1) := by decide +kernel
theorem dX1_init_0 : decode cX1_init 0 = .ok (.aload_n 0, 1) := by decide +kernel
theorem dX1_init_1 : decode cX1_init 1 = .ok (.invokespecial 1, 3) := by decide +kernel
theorem dX1_init_4 : decode cX1_init 4 = .ok (.aload_n 0, 1) := by decide +kernel
theorem dX1_init_5 : decode cX1_init 5 = .ok (.bipush 6, 2) := by decide +kernel
theorem dX1_init_7 : decode cX1_init 7 = .ok (.bipush 86, 2) := by decide +kernel
theorem dX1_init_9 : decode cX1_init 9 = .ok (.multianewarray 11 2, 4) := by decide +kernel
theorem dX1_init_13 : decode cX1_init 13 = .ok (.putfield 13, 3) := by decide +kernel
theorem dX1_init_16 : decode cX1_init 16 = .ok (.aload_n 0, 1) := by decide +kernel
theorem dX1_init_17 : decode cX1_init 17 = .ok (.iconst 0, 1) := by decide +kernel
theorem dX1_init_18 : decode cX1_init 18 = .ok (.putfield 16, 3) := by decide +kernel
theorem dX1_init_21 : decode cX1_init 21 = .ok (.aload_n 0, 1) := by decide +kernel
theorem dX1_init_22 : decode cX1_init 22 = .ok (.iconst 0, 1) := by decide +kernel
theorem dX1_init_23 : decode cX1_init 23 = .ok (.putfield 20, 3) := by decide +kernel
theorem dX1_init_26 : decode cX1_init 26 = .ok (.return_, 1) := by decide +kernel
set_option maxRecDepth 20000 in
theorem ggX1_keep_X3_copyRow : GoodIn wsX1_keep wsX3_copyRow := goodIn_r _ [10, 11, 12, 13, 14] (by decide +kernel) (by decide +kernel)
set_option maxRecDepth 20000 in
theorem gX1_keep_X3_copyRow_n23 : GoodIn wsX1_keep (wsX3_copyRow) := ggX1_keep_X3_copyRow
theorem dX1_keep_0 : decode cX1_keep 0 = .ok (.aload_n 1, 1) := by decide +kernel
theorem dX1_keep_1 : decode cX1_keep 1 = .ok (.aload_n 0, 1) := by decide +kernel
theorem dX1_keep_2 : decode cX1_keep 2 = .ok (.getfield 13, 3) := by decide +kernel
theorem dX1_keep_5 : decode cX1_keep 5 = .ok (.aload_n 0, 1) := by decide +kernel
theorem dX1_keep_6 : decode cX1_keep 6 = .ok (.getfield 16, 3) := by decide +kernel
theorem dX1_keep_9 : decode cX1_keep 9 = .ok (.aaload, 1) := by decide +kernel
theorem dX1_keep_10 : decode cX1_keep 10 = .ok (.invokestatic 23, 3) := by decide +kernel
theorem dX1_keep_13 : decode cX1_keep 13 = .ok (.aload_n 0, 1) := by decide +kernel
theorem dX1_keep_14 : decode cX1_keep 14 = .ok (.aload_n 0, 1) := by decide +kernel
theorem dX1_keep_15 : decode cX1_keep 15 = .ok (.getfield 16, 3) := by decide +kernel
theorem dX1_keep_18 : decode cX1_keep 18 = .ok (.iconst 1, 1) := by decide +kernel
theorem dX1_keep_19 : decode cX1_keep 19 = .ok (.iadd, 1) := by decide +kernel
theorem dX1_keep_20 : decode cX1_keep 20 = .ok (.bipush 6, 2) := by decide +kernel
theorem dX1_keep_22 : decode cX1_keep 22 = .ok (.if_icmp .ge 12, 3) := by decide +kernel
theorem dX1_keep_25 : decode cX1_keep 25 = .ok (.aload_n 0, 1) := by decide +kernel
theorem dX1_keep_26 : decode cX1_keep 26 = .ok (.getfield 16, 3) := by decide +kernel
theorem dX1_keep_29 : decode cX1_keep 29 = .ok (.iconst 1, 1) := by decide +kernel
theorem dX1_keep_30 : decode cX1_keep 30 = .ok (.iadd, 1) := by decide +kernel
theorem dX1_keep_31 : decode cX1_keep 31 = .ok (.goto 4, 3) := by decide +kernel
theorem dX1_keep_34 : decode cX1_keep 34 = .ok (.iconst 0, 1) := by decide +kernel
theorem dX1_keep_35 : decode cX1_keep 35 = .ok (.putfield 16, 3) := by decide +kernel
theorem dX1_keep_38 : decode cX1_keep 38 = .ok (.aload_n 0, 1) := by decide +kernel
theorem dX1_keep_39 : decode cX1_keep 39 = .ok (.aload_n 0, 1) := by decide +kernel
theorem dX1_keep_40 : decode cX1_keep 40 = .ok (.getfield 20, 3) := by decide +kernel
theorem dX1_keep_43 : decode cX1_keep 43 = .ok (.iconst 1, 1) := by decide +kernel
theorem dX1_keep_44 : decode cX1_keep 44 = .ok (.iadd, 1) := by decide +kernel
theorem dX1_keep_45 : decode cX1_keep 45 = .ok (.bipush 6, 2) := by decide +kernel
theorem dX1_keep_47 : decode cX1_keep 47 = .ok (.invokestatic 29, 3) := by decide +kernel
theorem dX1_keep_50 : decode cX1_keep 50 = .ok (.putfield 20, 3) := by decide +kernel
theorem dX1_keep_53 : decode cX1_keep 53 = .ok (.return_, 1) := by decide +kernel
set_option maxRecDepth 20000 in
theorem ggX1_takeBack_X3_copyRow : GoodIn wsX1_takeBack wsX3_copyRow := goodIn_r _ [6, 7, 8, 9, 10] (by decide +kernel) (by decide +kernel)
set_option maxRecDepth 20000 in
theorem gX1_takeBack_X3_copyRow_n23 : GoodIn wsX1_takeBack (wsX3_copyRow) := ggX1_takeBack_X3_copyRow
theorem dX1_takeBack_0 : decode cX1_takeBack 0 = .ok (.aload_n 0, 1) := by decide +kernel
theorem dX1_takeBack_1 : decode cX1_takeBack 1 = .ok (.aload_n 0, 1) := by decide +kernel
theorem dX1_takeBack_2 : decode cX1_takeBack 2 = .ok (.getfield 16, 3) := by decide +kernel
theorem dX1_takeBack_5 : decode cX1_takeBack 5 = .ok (.ifCond .le 12, 3) := by decide +kernel
theorem dX1_takeBack_8 : decode cX1_takeBack 8 = .ok (.aload_n 0, 1) := by decide +kernel
theorem dX1_takeBack_9 : decode cX1_takeBack 9 = .ok (.getfield 16, 3) := by decide +kernel
theorem dX1_takeBack_12 : decode cX1_takeBack 12 = .ok (.iconst 1, 1) := by decide +kernel
theorem dX1_takeBack_13 : decode cX1_takeBack 13 = .ok (.isub, 1) := by decide +kernel
theorem dX1_takeBack_14 : decode cX1_takeBack 14 = .ok (.goto 4, 3) := by decide +kernel
theorem dX1_takeBack_17 : decode cX1_takeBack 17 = .ok (.iconst 5, 1) := by decide +kernel
theorem dX1_takeBack_18 : decode cX1_takeBack 18 = .ok (.putfield 16, 3) := by decide +kernel
theorem dX1_takeBack_21 : decode cX1_takeBack 21 = .ok (.aload_n 0, 1) := by decide +kernel
theorem dX1_takeBack_22 : decode cX1_takeBack 22 = .ok (.getfield 13, 3) := by decide +kernel
theorem dX1_takeBack_25 : decode cX1_takeBack 25 = .ok (.aload_n 0, 1) := by decide +kernel
theorem dX1_takeBack_26 : decode cX1_takeBack 26 = .ok (.getfield 16, 3) := by decide +kernel
theorem dX1_takeBack_29 : decode cX1_takeBack 29 = .ok (.aaload, 1) := by decide +kernel
theorem dX1_takeBack_30 : decode cX1_takeBack 30 = .ok (.aload_n 1, 1) := by decide +kernel
theorem dX1_takeBack_31 : decode cX1_takeBack 31 = .ok (.invokestatic 23, 3) := by decide +kernel
theorem dX1_takeBack_34 : decode cX1_takeBack 34 = .ok (.aload_n 0, 1) := by decide +kernel
theorem dX1_takeBack_35 : decode cX1_takeBack 35 = .ok (.dup, 1) := by decide +kernel
theorem dX1_takeBack_36 : decode cX1_takeBack 36 = .ok (.getfield 20, 3) := by decide +kernel
theorem dX1_takeBack_39 : decode cX1_takeBack 39 = .ok (.iconst 1, 1) := by decide +kernel
theorem dX1_takeBack_40 : decode cX1_takeBack 40 = .ok (.isub, 1) := by decide +kernel
theorem dX1_takeBack_41 : decode cX1_takeBack 41 = .ok (.putfield 20, 3) := by decide +kernel
theorem dX1_takeBack_44 : decode cX1_takeBack 44 = .ok (.return_, 1) := by decide +kernel
theorem dJ6_bitCount_0f7a4_0 : decode cJ6_bitCount_0f7a4 0 = .ok (.iload_n 0, 1) := by decide +kernel
theorem dJ6_bitCount_0f7a4_1 : decode cJ6_bitCount_0f7a4 1 = .ok (.iload_n 0, 1) := by decide +kernel
theorem dJ6_bitCount_0f7a4_2 : decode cJ6_bitCount_0f7a4 2 = .ok (.iconst 1, 1) := by decide +kernel
theorem dJ6_bitCount_0f7a4_3 : decode cJ6_bitCount_0f7a4 3 = .ok (.iushr, 1) := by decide +kernel
theorem dJ6_bitCount_0f7a4_4 : decode cJ6_bitCount_0f7a4 4 = .ok (.ldc_w 265, 3) := by decide +kernel
theorem dJ6_bitCount_0f7a4_7 : decode cJ6_bitCount_0f7a4 7 = .ok (.iand, 1) := by decide +kernel
theorem dJ6_bitCount_0f7a4_8 : decode cJ6_bitCount_0f7a4 8 = .ok (.isub, 1) := by decide +kernel
theorem dJ6_bitCount_0f7a4_9 : decode cJ6_bitCount_0f7a4 9 = .ok (.istore_n 0, 1) := by decide +kernel
theorem dJ6_bitCount_0f7a4_10 : decode cJ6_bitCount_0f7a4 10 = .ok (.iload_n 0, 1) := by decide +kernel
theorem dJ6_bitCount_0f7a4_11 : decode cJ6_bitCount_0f7a4 11 = .ok (.ldc_w 266, 3) := by decide +kernel
theorem dJ6_bitCount_0f7a4_14 : decode cJ6_bitCount_0f7a4 14 = .ok (.iand, 1) := by decide +kernel
theorem dJ6_bitCount_0f7a4_15 : decode cJ6_bitCount_0f7a4 15 = .ok (.iload_n 0, 1) := by decide +kernel
theorem dJ6_bitCount_0f7a4_16 : decode cJ6_bitCount_0f7a4 16 = .ok (.iconst 2, 1) := by decide +kernel
theorem dJ6_bitCount_0f7a4_17 : decode cJ6_bitCount_0f7a4 17 = .ok (.iushr, 1) := by decide +kernel
theorem dJ6_bitCount_0f7a4_18 : decode cJ6_bitCount_0f7a4 18 = .ok (.ldc_w 266, 3) := by decide +kernel
theorem dJ6_bitCount_0f7a4_21 : decode cJ6_bitCount_0f7a4 21 = .ok (.iand, 1) := by decide +kernel
theorem dJ6_bitCount_0f7a4_22 : decode cJ6_bitCount_0f7a4 22 = .ok (.iadd, 1) := by decide +kernel
theorem dJ6_bitCount_0f7a4_23 : decode cJ6_bitCount_0f7a4 23 = .ok (.istore_n 0, 1) := by decide +kernel
theorem dJ6_bitCount_0f7a4_24 : decode cJ6_bitCount_0f7a4 24 = .ok (.iload_n 0, 1) := by decide +kernel
theorem dJ6_bitCount_0f7a4_25 : decode cJ6_bitCount_0f7a4 25 = .ok (.iload_n 0, 1) := by decide +kernel
theorem dJ6_bitCount_0f7a4_26 : decode cJ6_bitCount_0f7a4 26 = .ok (.iconst 4, 1) := by decide +kernel
theorem dJ6_bitCount_0f7a4_27 : decode cJ6_bitCount_0f7a4 27 = .ok (.iushr, 1) := by decide +kernel
theorem dJ6_bitCount_0f7a4_28 : decode cJ6_bitCount_0f7a4 28 = .ok (.iadd, 1) := by decide +kernel
theorem dJ6_bitCount_0f7a4_29 : decode cJ6_bitCount_0f7a4 29 = .ok (.ldc_w 267, 3) := by decide +kernel
theorem dJ6_bitCount_0f7a4_32 : decode cJ6_bitCount_0f7a4 32 = .ok (.iand, 1) := by decide +kernel
theorem dJ6_bitCount_0f7a4_33 : decode cJ6_bitCount_0f7a4 33 = .ok (.istore_n 0, 1) := by decide +kernel
theorem dJ6_bitCount_0f7a4_34 : decode cJ6_bitCount_0f7a4 34 = .ok (.iload_n 0, 1) := by decide +kernel
theorem dJ6_bitCount_0f7a4_35 : decode cJ6_bitCount_0f7a4 35 = .ok (.iload_n 0, 1) := by decide +kernel
theorem dJ6_bitCount_0f7a4_36 : decode cJ6_bitCount_0f7a4 36 = .ok (.bipush 8, 2) := by decide +kernel
theorem dJ6_bitCount_0f7a4_38 : decode cJ6_bitCount_0f7a4 38 = .ok (.iushr, 1) := by decide +kernel
theorem dJ6_bitCount_0f7a4_39 : decode cJ6_bitCount_0f7a4 39 = .ok (.iadd, 1) := by decide +kernel
theorem dJ6_bitCount_0f7a4_40 : decode cJ6_bitCount_0f7a4 40 = .ok (.istore_n 0, 1) := by decide +kernel
theorem dJ6_bitCount_0f7a4_41 : decode cJ6_bitCount_0f7a4 41 = .ok (.iload_n 0, 1) := by decide +kernel
theorem dJ6_bitCount_0f7a4_42 : decode cJ6_bitCount_0f7a4 42 = .ok (.iload_n 0, 1) := by decide +kernel
theorem dJ6_bitCount_0f7a4_43 : decode cJ6_bitCount_0f7a4 43 = .ok (.bipush 16, 2) := by decide +kernel
theorem dJ6_bitCount_0f7a4_45 : decode cJ6_bitCount_0f7a4 45 = .ok (.iushr, 1) := by decide +kernel
theorem dJ6_bitCount_0f7a4_46 : decode cJ6_bitCount_0f7a4 46 = .ok (.iadd, 1) := by decide +kernel
theorem dJ6_bitCount_0f7a4_47 : decode cJ6_bitCount_0f7a4 47 = .ok (.istore_n 0, 1) := by decide +kernel
theorem dJ6_bitCount_0f7a4_48 : decode cJ6_bitCount_0f7a4 48 = .ok (.iload_n 0, 1) := by decide +kernel
theorem dJ6_bitCount_0f7a4_49 : decode cJ6_bitCount_0f7a4 49 = .ok (.bipush 63, 2) := by decide +kernel
theorem dJ6_bitCount_0f7a4_51 : decode cJ6_bitCount_0f7a4 51 = .ok (.iand, 1) := by decide +kernel
theorem dJ6_bitCount_0f7a4_52 : decode cJ6_bitCount_0f7a4 52 = .ok (.ireturn, 1) := by decide +kernel
theorem dJ9_abs_0f7a4_0 : decode cJ9_abs_0f7a4 0 = .ok (.iload_n 0, 1) := by decide +kernel
theorem dJ9_abs_0f7a4_1 : decode cJ9_abs_0f7a4 1 = .ok (.ifCond .ge 8, 3) := by decide +kernel
theorem dJ9_abs_0f7a4_4 : decode cJ9_abs_0f7a4 4 = .ok (.iload_n 0, 1) := by decide +kernel
theorem dJ9_abs_0f7a4_5 : decode cJ9_abs_0f7a4 5 = .ok (.ineg, 1) := by decide +kernel
theorem dJ9_abs_0f7a4_6 : decode cJ9_abs_0f7a4 6 = .ok (.goto 4, 3) := by decide +kernel
theorem dJ9_abs_0f7a4_9 : decode cJ9_abs_0f7a4 9 = .ok (.iload_n 0, 1) := by decide +kernel
theorem dJ9_abs_0f7a4_10 : decode cJ9_abs_0f7a4 10 = .ok (.ireturn, 1) := by decide +kernel
theorem dJ9_min_7cf53_0 : decode cJ9_min_7cf53 0 = .ok (.iload_n 0, 1) := by decide +kernel
theorem dJ9_min_7cf53_1 : decode cJ9_min_7cf53 1 = .ok (.iload_n 1, 1) := by decide +kernel
theorem dJ9_min_7cf53_2 : decode cJ9_min_7cf53 2 = .ok (.if_icmp .gt 7, 3) := by decide +kernel
theorem dJ9_min_7cf53_5 : decode cJ9_min_7cf53 5 = .ok (.iload_n 0, 1) := by decide +kernel
theorem dJ9_min_7cf53_6 : decode cJ9_min_7cf53 6 = .ok (.goto 4, 3) := by decide +kernel
theorem dJ9_min_7cf53_9 : decode cJ9_min_7cf53 9 = .ok (.iload_n 1, 1) := by decide +kernel
theorem dJ9_min_7cf53_10 : decode cJ9_min_7cf53 10 = .ok (.ireturn, 1) := by decide +kernel
end
section
theorem dX2_init_0 : decode cX2_init 0 = .ok (.aload_n 0, 1) := by decide +kernel
theorem dX2_init_1 : decode cX2_init 1 = .ok (.invokespecial 3, 3) := by decide +kernel
theorem dX2_init_4 : decode cX2_init 4 = .ok (.aload_n 0, 1) := by decide +kernel
theorem dX2_init_5 : decode cX2_init 5 = .ok (.bipush 60, 2) := by decide +kernel
theorem dX2_init_7 : decode cX2_init 7 = .ok (.newarray .char, 2) := by decide +kernel
theorem dX2_init_9 : decode cX2_init 9 = .ok (.putfield 11, 3) := by decide +kernel
theorem dX2_init_12 : decode cX2_init 12 = .ok (.aload_n 0, 1) := by decide +kernel
theorem dX2_init_13 : decode cX2_init 13 = .ok (.iconst 0, 1) := by decide +kernel
theorem dX2_init_14 : decode cX2_init 14 = .ok (.putfield 15, 3) := by decide +kernel
theorem dX2_init_17 : decode cX2_init 17 = .ok (.return_, 1) := by decide +kernel
theorem dX2_numberOf_0 : decode cX2_numberOf 0 = .ok (.iconst 0, 1) := by decide +kernel
theorem dX2_numberOf_1 : decode cX2_numberOf 1 = .ok (.istore_n 2, 1) := by decide +kernel
theorem dX2_numberOf_2 : decode cX2_numberOf 2 = .ok (.iload_n 2, 1) := by decide +kernel
theorem dX2_numberOf_3 : decode cX2_numberOf 3 = .ok (.bipush 8, 2) := by decide +kernel
theorem dX2_numberOf_5 : decode cX2_numberOf 5 = .ok (.if_icmp .ge 59, 3) := by decide +kernel
theorem dX2_numberOf_8 : decode cX2_numberOf 8 = .ok (.lload_n 0, 1) := by decide +kernel
theorem dX2_numberOf_9 : decode cX2_numberOf 9 = .ok (.bipush 8, 2) := by decide +kernel
theorem dX2_numberOf_11 : decode cX2_numberOf 11 = .ok (.iload_n 2, 1) := by decide +kernel
theorem dX2_numberOf_12 : decode cX2_numberOf 12 = .ok (.imul, 1) := by decide +kernel
theorem dX2_numberOf_13 : decode cX2_numberOf 13 = .ok (.lushr, 1) := by decide +kernel
theorem dX2_numberOf_14 : decode cX2_numberOf 14 = .ok (.lstore_n 3, 1) := by decide +kernel
theorem dX2_numberOf_15 : decode cX2_numberOf 15 = .ok (.lload_n 3, 1) := by decide +kernel
theorem dX2_numberOf_16 : decode cX2_numberOf 16 = .ok (.ldc2_w 19, 3) := by decide +kernel
theorem dX2_numberOf_19 : decode cX2_numberOf 19 = .ok (.land, 1) := by decide +kernel
theorem dX2_numberOf_20 : decode cX2_numberOf 20 = .ok (.l2i, 1) := by decide +kernel
theorem dX2_numberOf_21 : decode cX2_numberOf 21 = .ok (.istore 5, 2) := by decide +kernel
theorem dX2_numberOf_23 : decode cX2_numberOf 23 = .ok (.iload 5, 2) := by decide +kernel
theorem dX2_numberOf_25 : decode cX2_numberOf 25 = .ok (.ifCond .ne 16, 3) := by decide +kernel
theorem dX2_numberOf_28 : decode cX2_numberOf 28 = .ok (.lload_n 3, 1) := by decide +kernel
theorem dX2_numberOf_29 : decode cX2_numberOf 29 = .ok (.lconst 0, 1) := by decide +kernel
theorem dX2_numberOf_30 : decode cX2_numberOf 30 = .ok (.lcmp, 1) := by decide +kernel
theorem dX2_numberOf_31 : decode cX2_numberOf 31 = .ok (.ifCond .ne 7, 3) := by decide +kernel
theorem dX2_numberOf_34 : decode cX2_numberOf 34 = .ok (.iload_n 2, 1) := by decide +kernel
theorem dX2_numberOf_35 : decode cX2_numberOf 35 = .ok (.goto 5, 3) := by decide +kernel
theorem dX2_numberOf_38 : decode cX2_numberOf 38 = .ok (.bipush (-2), 2) := by decide +kernel
theorem dX2_numberOf_40 : decode cX2_numberOf 40 = .ok (.ireturn, 1) := by decide +kernel
theorem dX2_numberOf_41 : decode cX2_numberOf 41 = .ok (.iload 5, 2) := by decide +kernel
theorem dX2_numberOf_43 : decode cX2_numberOf 43 = .ok (.bipush 33, 2) := by decide +kernel
theorem dX2_numberOf_45 : decode cX2_numberOf 45 = .ok (.if_icmp .lt 10, 3) := by decide +kernel
theorem dX2_numberOf_48 : decode cX2_numberOf 48 = .ok (.iload 5, 2) := by decide +kernel
theorem dX2_numberOf_50 : decode cX2_numberOf 50 = .ok (.bipush 126, 2) := by decide +kernel
theorem dX2_numberOf_52 : decode cX2_numberOf 52 = .ok (.if_icmp .le 6, 3) := by decide +kernel
theorem dX2_numberOf_55 : decode cX2_numberOf 55 = .ok (.bipush (-2), 2) := by decide +kernel
theorem dX2_numberOf_57 : decode cX2_numberOf 57 = .ok (.ireturn, 1) := by decide +kernel
theorem dX2_numberOf_58 : decode cX2_numberOf 58 = .ok (.iinc 2 1, 3) := by decide +kernel
theorem dX2_numberOf_61 : decode cX2_numberOf 61 = .ok (.goto (-59), 3) := by decide +kernel
theorem dX2_numberOf_64 : decode cX2_numberOf 64 = .ok (.bipush 8, 2) := by decide +kernel
theorem dX2_numberOf_66 : decode cX2_numberOf 66 = .ok (.ireturn, 1) := by decide +kernel
theorem dX2_hasRoomFor_0 : decode cX2_hasRoomFor 0 = .ok (.aload_n 0, 1) := by decide +kernel
theorem dX2_hasRoomFor_1 : decode cX2_hasRoomFor 1 = .ok (.getfield 15, 3) := by decide +kernel
theorem dX2_hasRoomFor_4 : decode cX2_hasRoomFor 4 = .ok (.iload_n 1, 1) := by decide +kernel
theorem dX2_hasRoomFor_5 : decode cX2_hasRoomFor 5 = .ok (.iadd, 1) := by decide +kernel
theorem dX2_hasRoomFor_6 : decode cX2_hasRoomFor 6 = .ok (.bipush 60, 2) := by decide +kernel
theorem dX2_hasRoomFor_8 : decode cX2_hasRoomFor 8 = .ok (.if_icmp .gt 7, 3) := by decide +kernel
theorem dX2_hasRoomFor_11 : decode cX2_hasRoomFor 11 = .ok (.iconst 1, 1) := by decide +kernel
theorem dX2_hasRoomFor_12 : decode cX2_hasRoomFor 12 = .ok (.goto 4, 3) := by decide +kernel
theorem dX2_hasRoomFor_15 : decode cX2_hasRoomFor 15 = .ok (.iconst 0, 1) := by decide +kernel
theorem dX2_hasRoomFor_16 : decode cX2_hasRoomFor 16 = .ok (.ireturn, 1) := by decide +kernel
theorem dX2_append_0 : decode cX2_append 0 = .ok (.iload_n 3, 1) := by decide +kernel
theorem dX2_append_1 : decode cX2_append 1 = .ok (.iconst 1, 1) := by decide +kernel
theorem dX2_append_2 : decode cX2_append 2 = .ok (.isub, 1) := by decide +kernel
theorem dX2_append_3 : decode cX2_append 3 = .ok (.istore 4, 2) := by decide +kernel
theorem dX2_append_5 : decode cX2_append 5 = .ok (.iload 4, 2) := by decide +kernel
theorem dX2_append_7 : decode cX2_append 7 = .ok (.ifCond .lt 50, 3) := by decide +kernel
theorem dX2_append_10 : decode cX2_append 10 = .ok (.aload_n 0, 1) := by decide +kernel
theorem dX2_append_11 : decode cX2_append 11 = .ok (.getfield 15, 3) := by decide +kernel
theorem dX2_append_14 : decode cX2_append 14 = .ok (.bipush 60, 2) := by decide +kernel
theorem dX2_append_16 : decode cX2_append 16 = .ok (.if_icmp .ge 41, 3) := by decide +kernel
theorem dX2_append_19 : decode cX2_append 19 = .ok (.aload_n 0, 1) := by decide +kernel
theorem dX2_append_20 : decode cX2_append 20 = .ok (.getfield 11, 3) := by decide +kernel
theorem dX2_append_23 : decode cX2_append 23 = .ok (.aload_n 0, 1) := by decide +kernel
theorem dX2_append_24 : decode cX2_append 24 = .ok (.getfield 15, 3) := by decide +kernel
theorem dX2_append_27 : decode cX2_append 27 = .ok (.lload_n 1, 1) := by decide +kernel
theorem dX2_append_28 : decode cX2_append 28 = .ok (.bipush 8, 2) := by decide +kernel
theorem dX2_append_30 : decode cX2_append 30 = .ok (.iload 4, 2) := by decide +kernel
theorem dX2_append_32 : decode cX2_append 32 = .ok (.imul, 1) := by decide +kernel
theorem dX2_append_33 : decode cX2_append 33 = .ok (.lushr, 1) := by decide +kernel
theorem dX2_append_34 : decode cX2_append 34 = .ok (.ldc2_w 19, 3) := by decide +kernel
theorem dX2_append_37 : decode cX2_append 37 = .ok (.land, 1) := by decide +kernel
theorem dX2_append_38 : decode cX2_append 38 = .ok (.l2i, 1) := by decide +kernel
theorem dX2_append_39 : decode cX2_append 39 = .ok (.i2c, 1) := by decide +kernel
theorem dX2_append_40 : decode cX2_append 40 = .ok (.castore, 1) := by decide +kernel
theorem dX2_append_41 : decode cX2_append 41 = .ok (.aload_n 0, 1) := by decide +kernel
theorem dX2_append_42 : decode cX2_append 42 = .ok (.dup, 1) := by decide +kernel
theorem dX2_append_43 : decode cX2_append 43 = .ok (.getfield 15, 3) := by decide +kernel
theorem dX2_append_46 : decode cX2_append 46 = .ok (.iconst 1, 1) := by decide +kernel
theorem dX2_append_47 : decode cX2_append 47 = .ok (.iadd, 1) := by decide +kernel
theorem dX2_append_48 : decode cX2_append 48 = .ok (.putfield 15, 3) := by decide +kernel
theorem dX2_append_51 : decode cX2_append 51 = .ok (.iinc 4 (-1), 3) := by decide +kernel
theorem dX2_append_54 : decode cX2_append 54 = .ok (.goto (-49), 3) := by decide +kernel
theorem dX2_append_57 : decode cX2_append 57 = .ok (.return_, 1) := by decide +kernel
theorem dX2_empty_0 : decode cX2_empty 0 = .ok (.aload_n 0, 1) := by decide +kernel
theorem dX2_empty_1 : decode cX2_empty 1 = .ok (.iconst 0, 1) := by decide +kernel
theorem dX2_empty_2 : decode cX2_empty 2 = .ok (.putfield 15, 3) := by decide +kernel
theorem dX2_empty_5 : decode cX2_empty 5 = .ok (.return_, 1) := by decide +kernel
set_option maxRecDepth 20000 in
theorem ggX2_firstFault_X2_stateAfter : GoodIn wsX2_firstFault wsX2_stateAfter := goodIn_r _ [6, 7, 8, 5, 9, 10, 11, 12, 13, 14, 15, 16, 17, 18] (by decide +kernel) (by decide +kernel)
set_option maxRecDepth 20000 in
theorem gX2_firstFault_X2_stateAfter : GoodIn wsX2_firstFault (va_wsS RX2 21 yX2_stateAfter wsX2_stateAfter) := goodIn_app (goodIn_of _ (by decide +kernel)) ggX2_firstFault_X2_stateAfter
theorem dX2_firstFault_0 : decode cX2_firstFault 0 = .ok (.iconst 0, 1) := by decide +kernel
theorem dX2_firstFault_1 : decode cX2_firstFault 1 = .ok (.istore_n 1, 1) := by decide +kernel
theorem dX2_firstFault_2 : decode cX2_firstFault 2 = .ok (.iconst 0, 1) := by decide +kernel
theorem dX2_firstFault_3 : decode cX2_firstFault 3 = .ok (.istore_n 2, 1) := by decide +kernel
theorem dX2_firstFault_4 : decode cX2_firstFault 4 = .ok (.iload_n 2, 1) := by decide +kernel
theorem dX2_firstFault_5 : decode cX2_firstFault 5 = .ok (.aload_n 0, 1) := by decide +kernel
theorem dX2_firstFault_6 : decode cX2_firstFault 6 = .ok (.getfield 15, 3) := by decide +kernel
theorem dX2_firstFault_9 : decode cX2_firstFault 9 = .ok (.if_icmp .ge 28, 3) := by decide +kernel
theorem dX2_firstFault_12 : decode cX2_firstFault 12 = .ok (.iload_n 1, 1) := by decide +kernel
theorem dX2_firstFault_13 : decode cX2_firstFault 13 = .ok (.aload_n 0, 1) := by decide +kernel
theorem dX2_firstFault_14 : decode cX2_firstFault 14 = .ok (.getfield 11, 3) := by decide +kernel
theorem dX2_firstFault_17 : decode cX2_firstFault 17 = .ok (.iload_n 2, 1) := by decide +kernel
theorem dX2_firstFault_18 : decode cX2_firstFault 18 = .ok (.caload, 1) := by decide +kernel
theorem dX2_firstFault_19 : decode cX2_firstFault 19 = .ok (.invokestatic 21, 3) := by decide +kernel
theorem dX2_firstFault_22 : decode cX2_firstFault 22 = .ok (.istore_n 1, 1) := by decide +kernel
theorem dX2_firstFault_23 : decode cX2_firstFault 23 = .ok (.iload_n 1, 1) := by decide +kernel
theorem dX2_firstFault_24 : decode cX2_firstFault 24 = .ok (.bipush 6, 2) := by decide +kernel
theorem dX2_firstFault_26 : decode cX2_firstFault 26 = .ok (.if_icmp .ne 5, 3) := by decide +kernel
theorem dX2_firstFault_29 : decode cX2_firstFault 29 = .ok (.iload_n 2, 1) := by decide +kernel
theorem dX2_firstFault_30 : decode cX2_firstFault 30 = .ok (.ireturn, 1) := by decide +kernel
theorem dX2_firstFault_31 : decode cX2_firstFault 31 = .ok (.iinc 2 1, 3) := by decide +kernel
theorem dX2_firstFault_34 : decode cX2_firstFault 34 = .ok (.goto (-30), 3) := by decide +kernel
theorem dX2_firstFault_37 : decode cX2_firstFault 37 = .ok (.iload_n 1, 1) := by decide +kernel
theorem dX2_firstFault_38 : decode cX2_firstFault 38 = .ok (.iconst 2, 1) := by decide +kernel
theorem dX2_firstFault_39 : decode cX2_firstFault 39 = .ok (.if_icmp .eq 13, 3) := by decide +kernel
theorem dX2_firstFault_42 : decode cX2_firstFault 42 = .ok (.iload_n 1, 1) := by decide +kernel
theorem dX2_firstFault_43 : decode cX2_firstFault 43 = .ok (.iconst 4, 1) := by decide +kernel
theorem dX2_firstFault_44 : decode cX2_firstFault 44 = .ok (.if_icmp .eq 8, 3) := by decide +kernel
theorem dX2_firstFault_47 : decode cX2_firstFault 47 = .ok (.iload_n 1, 1) := by decide +kernel
theorem dX2_firstFault_48 : decode cX2_firstFault 48 = .ok (.iconst 5, 1) := by decide +kernel
theorem dX2_firstFault_49 : decode cX2_firstFault 49 = .ok (.if_icmp .ne 7, 3) := by decide +kernel
theorem dX2_firstFault_52 : decode cX2_firstFault 52 = .ok (.iconst 1, 1) := by decide +kernel
theorem dX2_firstFault_53 : decode cX2_firstFault 53 = .ok (.goto 4, 3) := by decide +kernel
theorem dX2_firstFault_56 : decode cX2_firstFault 56 = .ok (.iconst 0, 1) := by decide +kernel
theorem dX2_firstFault_57 : decode cX2_firstFault 57 = .ok (.istore_n 2, 1) := by decide +kernel
theorem dX2_firstFault_58 : decode cX2_firstFault 58 = .ok (.iload_n 2, 1) := by decide +kernel
theorem dX2_firstFault_59 : decode cX2_firstFault 59 = .ok (.ifCond .eq 8, 3) := by decide +kernel
theorem dX2_firstFault_62 : decode cX2_firstFault 62 = .ok (.bipush (-6), 2) := by decide +kernel
theorem dX2_firstFault_64 : decode cX2_firstFault 64 = .ok (.goto 7, 3) := by decide +kernel
theorem dX2_firstFault_67 : decode cX2_firstFault 67 = .ok (.aload_n 0, 1) := by decide +kernel
theorem dX2_firstFault_68 : decode cX2_firstFault 68 = .ok (.getfield 15, 3) := by decide +kernel
theorem dX2_firstFault_71 : decode cX2_firstFault 71 = .ok (.ireturn, 1) := by decide +kernel
set_option maxRecDepth 20000 in
theorem ggX2_stateAfter_X2_isGateDigit : GoodIn wsX2_stateAfter wsX2_isGateDigit := goodIn_r _ [4] (by decide +kernel) (by decide +kernel)
set_option maxRecDepth 20000 in
theorem gX2_stateAfter_X2_isGateDigit : GoodIn wsX2_stateAfter (va_wsS RX2 25 yX2_isGateDigit wsX2_isGateDigit) := goodIn_app (goodIn_of _ (by decide +kernel)) ggX2_stateAfter_X2_isGateDigit
set_option maxRecDepth 20000 in
theorem ggX2_stateAfter_X2_beamOf : GoodIn wsX2_stateAfter wsX2_beamOf := goodIn_r _ [7] (by decide +kernel) (by decide +kernel)
set_option maxRecDepth 20000 in
theorem gX2_stateAfter_X2_beamOf : GoodIn wsX2_stateAfter (va_wsS RX2 29 yX2_beamOf wsX2_beamOf) := goodIn_app (goodIn_of _ (by decide +kernel)) ggX2_stateAfter_X2_beamOf
set_option maxRecDepth 20000 in
theorem ggX2_stateAfter_X2_afterEvent : GoodIn wsX2_stateAfter wsX2_afterEvent := goodIn_r _ [10] (by decide +kernel) (by decide +kernel)
set_option maxRecDepth 20000 in
theorem gX2_stateAfter_X2_afterEvent : GoodIn wsX2_stateAfter (va_wsS RX2 33 yX2_afterEvent wsX2_afterEvent) := goodIn_app (goodIn_of _ (by decide +kernel)) ggX2_stateAfter_X2_afterEvent
set_option maxRecDepth 20000 in
theorem ggX2_stateAfter_X2_isDigit : GoodIn wsX2_stateAfter wsX2_isDigit := goodIn_r _ [13] (by decide +kernel) (by decide +kernel)
set_option maxRecDepth 20000 in
theorem gX2_stateAfter_X2_isDigit : GoodIn wsX2_stateAfter (va_wsS RX2 36 yX2_isDigit wsX2_isDigit) := goodIn_app (goodIn_of _ (by decide +kernel)) ggX2_stateAfter_X2_isDigit
theorem dX2_stateAfter_0 : decode cX2_stateAfter 0 = .ok (.iload_n 0, 1) := by decide +kernel
theorem dX2_stateAfter_1 : decode cX2_stateAfter 1 = .ok (.tableswitch 123 0 4 #[35, 57, 71, 87, 107], 35) := by decide +kernel
theorem dX2_stateAfter_36 : decode cX2_stateAfter 36 = .ok (.iload_n 1, 1) := by decide +kernel
theorem dX2_stateAfter_37 : decode cX2_stateAfter 37 = .ok (.bipush 46, 2) := by decide +kernel
theorem dX2_stateAfter_39 : decode cX2_stateAfter 39 = .ok (.if_icmp .ne 5, 3) := by decide +kernel
theorem dX2_stateAfter_42 : decode cX2_stateAfter 42 = .ok (.iconst 3, 1) := by decide +kernel
theorem dX2_stateAfter_43 : decode cX2_stateAfter 43 = .ok (.ireturn, 1) := by decide +kernel
theorem dX2_stateAfter_44 : decode cX2_stateAfter 44 = .ok (.iload_n 1, 1) := by decide +kernel
theorem dX2_stateAfter_45 : decode cX2_stateAfter 45 = .ok (.invokestatic 25, 3) := by decide +kernel
theorem dX2_stateAfter_48 : decode cX2_stateAfter 48 = .ok (.ifCond .eq 7, 3) := by decide +kernel
theorem dX2_stateAfter_51 : decode cX2_stateAfter 51 = .ok (.iconst 1, 1) := by decide +kernel
theorem dX2_stateAfter_52 : decode cX2_stateAfter 52 = .ok (.goto 5, 3) := by decide +kernel
theorem dX2_stateAfter_55 : decode cX2_stateAfter 55 = .ok (.bipush 6, 2) := by decide +kernel
theorem dX2_stateAfter_57 : decode cX2_stateAfter 57 = .ok (.ireturn, 1) := by decide +kernel
theorem dX2_stateAfter_58 : decode cX2_stateAfter 58 = .ok (.iload_n 1, 1) := by decide +kernel
theorem dX2_stateAfter_59 : decode cX2_stateAfter 59 = .ok (.invokestatic 29, 3) := by decide +kernel
theorem dX2_stateAfter_62 : decode cX2_stateAfter 62 = .ok (.ifCond .lt 7, 3) := by decide +kernel
theorem dX2_stateAfter_65 : decode cX2_stateAfter 65 = .ok (.iconst 2, 1) := by decide +kernel
theorem dX2_stateAfter_66 : decode cX2_stateAfter 66 = .ok (.goto 5, 3) := by decide +kernel
theorem dX2_stateAfter_69 : decode cX2_stateAfter 69 = .ok (.bipush 6, 2) := by decide +kernel
theorem dX2_stateAfter_71 : decode cX2_stateAfter 71 = .ok (.ireturn, 1) := by decide +kernel
theorem dX2_stateAfter_72 : decode cX2_stateAfter 72 = .ok (.iload_n 1, 1) := by decide +kernel
theorem dX2_stateAfter_73 : decode cX2_stateAfter 73 = .ok (.invokestatic 29, 3) := by decide +kernel
theorem dX2_stateAfter_76 : decode cX2_stateAfter 76 = .ok (.ifCond .lt 7, 3) := by decide +kernel
theorem dX2_stateAfter_79 : decode cX2_stateAfter 79 = .ok (.iconst 2, 1) := by decide +kernel
theorem dX2_stateAfter_80 : decode cX2_stateAfter 80 = .ok (.goto 7, 3) := by decide +kernel
theorem dX2_stateAfter_83 : decode cX2_stateAfter 83 = .ok (.iload_n 1, 1) := by decide +kernel
theorem dX2_stateAfter_84 : decode cX2_stateAfter 84 = .ok (.invokestatic 33, 3) := by decide +kernel
theorem dX2_stateAfter_87 : decode cX2_stateAfter 87 = .ok (.ireturn, 1) := by decide +kernel
theorem dX2_stateAfter_88 : decode cX2_stateAfter 88 = .ok (.iload_n 1, 1) := by decide +kernel
theorem dX2_stateAfter_89 : decode cX2_stateAfter 89 = .ok (.invokestatic 36, 3) := by decide +kernel
theorem dX2_stateAfter_92 : decode cX2_stateAfter 92 = .ok (.ifCond .eq 13, 3) := by decide +kernel
theorem dX2_stateAfter_95 : decode cX2_stateAfter 95 = .ok (.iload_n 1, 1) := by decide +kernel
theorem dX2_stateAfter_96 : decode cX2_stateAfter 96 = .ok (.bipush 48, 2) := by decide +kernel
theorem dX2_stateAfter_98 : decode cX2_stateAfter 98 = .ok (.if_icmp .eq 7, 3) := by decide +kernel
theorem dX2_stateAfter_101 : decode cX2_stateAfter 101 = .ok (.iconst 4, 1) := by decide +kernel
theorem dX2_stateAfter_102 : decode cX2_stateAfter 102 = .ok (.goto 5, 3) := by decide +kernel
theorem dX2_stateAfter_105 : decode cX2_stateAfter 105 = .ok (.bipush 6, 2) := by decide +kernel
theorem dX2_stateAfter_107 : decode cX2_stateAfter 107 = .ok (.ireturn, 1) := by decide +kernel
theorem dX2_stateAfter_108 : decode cX2_stateAfter 108 = .ok (.iload_n 1, 1) := by decide +kernel
theorem dX2_stateAfter_109 : decode cX2_stateAfter 109 = .ok (.invokestatic 36, 3) := by decide +kernel
theorem dX2_stateAfter_112 : decode cX2_stateAfter 112 = .ok (.ifCond .eq 7, 3) := by decide +kernel
theorem dX2_stateAfter_115 : decode cX2_stateAfter 115 = .ok (.iconst 5, 1) := by decide +kernel
theorem dX2_stateAfter_116 : decode cX2_stateAfter 116 = .ok (.goto 7, 3) := by decide +kernel
theorem dX2_stateAfter_119 : decode cX2_stateAfter 119 = .ok (.iload_n 1, 1) := by decide +kernel
theorem dX2_stateAfter_120 : decode cX2_stateAfter 120 = .ok (.invokestatic 33, 3) := by decide +kernel
theorem dX2_stateAfter_123 : decode cX2_stateAfter 123 = .ok (.ireturn, 1) := by decide +kernel
theorem dX2_stateAfter_124 : decode cX2_stateAfter 124 = .ok (.iload_n 1, 1) := by decide +kernel
theorem dX2_stateAfter_125 : decode cX2_stateAfter 125 = .ok (.invokestatic 33, 3) := by decide +kernel
theorem dX2_stateAfter_128 : decode cX2_stateAfter 128 = .ok (.ireturn, 1) := by decide +kernel
theorem dX2_afterEvent_0 : decode cX2_afterEvent 0 = .ok (.iload_n 0, 1) := by decide +kernel
theorem dX2_afterEvent_1 : decode cX2_afterEvent 1 = .ok (.bipush 59, 2) := by decide +kernel
theorem dX2_afterEvent_3 : decode cX2_afterEvent 3 = .ok (.if_icmp .ne 7, 3) := by decide +kernel
theorem dX2_afterEvent_6 : decode cX2_afterEvent 6 = .ok (.iconst 0, 1) := by decide +kernel
theorem dX2_afterEvent_7 : decode cX2_afterEvent 7 = .ok (.goto 5, 3) := by decide +kernel
theorem dX2_afterEvent_10 : decode cX2_afterEvent 10 = .ok (.bipush 6, 2) := by decide +kernel
theorem dX2_afterEvent_12 : decode cX2_afterEvent 12 = .ok (.ireturn, 1) := by decide +kernel
theorem dX2_isDigit_0 : decode cX2_isDigit 0 = .ok (.iload_n 0, 1) := by decide +kernel
theorem dX2_isDigit_1 : decode cX2_isDigit 1 = .ok (.bipush 48, 2) := by decide +kernel
theorem dX2_isDigit_3 : decode cX2_isDigit 3 = .ok (.if_icmp .lt 13, 3) := by decide +kernel
theorem dX2_isDigit_6 : decode cX2_isDigit 6 = .ok (.iload_n 0, 1) := by decide +kernel
theorem dX2_isDigit_7 : decode cX2_isDigit 7 = .ok (.bipush 57, 2) := by decide +kernel
theorem dX2_isDigit_9 : decode cX2_isDigit 9 = .ok (.if_icmp .gt 7, 3) := by decide +kernel
theorem dX2_isDigit_12 : decode cX2_isDigit 12 = .ok (.iconst 1, 1) := by decide +kernel
theorem dX2_isDigit_13 : decode cX2_isDigit 13 = .ok (.goto 4, 3) := by decide +kernel
theorem dX2_isDigit_16 : decode cX2_isDigit 16 = .ok (.iconst 0, 1) := by decide +kernel
theorem dX2_isDigit_17 : decode cX2_isDigit 17 = .ok (.ireturn, 1) := by decide +kernel
theorem dX2_isGateDigit_0 : decode cX2_isGateDigit 0 = .ok (.iload_n 0, 1) := by decide +kernel
theorem dX2_isGateDigit_1 : decode cX2_isGateDigit 1 = .ok (.bipush 48, 2) := by decide +kernel
theorem dX2_isGateDigit_3 : decode cX2_isGateDigit 3 = .ok (.if_icmp .lt 13, 3) := by decide +kernel
theorem dX2_isGateDigit_6 : decode cX2_isGateDigit 6 = .ok (.iload_n 0, 1) := by decide +kernel
theorem dX2_isGateDigit_7 : decode cX2_isGateDigit 7 = .ok (.bipush 54, 2) := by decide +kernel
theorem dX2_isGateDigit_9 : decode cX2_isGateDigit 9 = .ok (.if_icmp .ge 7, 3) := by decide +kernel
theorem dX2_isGateDigit_12 : decode cX2_isGateDigit 12 = .ok (.iconst 1, 1) := by decide +kernel
theorem dX2_isGateDigit_13 : decode cX2_isGateDigit 13 = .ok (.goto 4, 3) := by decide +kernel
theorem dX2_isGateDigit_16 : decode cX2_isGateDigit 16 = .ok (.iconst 0, 1) := by decide +kernel
theorem dX2_isGateDigit_17 : decode cX2_isGateDigit 17 = .ok (.ireturn, 1) := by decide +kernel
theorem dX2_beamOf_0 : decode cX2_beamOf 0 = .ok (.iload_n 0, 1) := by decide +kernel
theorem dX2_beamOf_1 : decode cX2_beamOf 1 = .ok (.bipush 111, 2) := by decide +kernel
theorem dX2_beamOf_3 : decode cX2_beamOf 3 = .ok (.if_icmp .ne 5, 3) := by decide +kernel
theorem dX2_beamOf_6 : decode cX2_beamOf 6 = .ok (.iconst 0, 1) := by decide +kernel
theorem dX2_beamOf_7 : decode cX2_beamOf 7 = .ok (.ireturn, 1) := by decide +kernel
theorem dX2_beamOf_8 : decode cX2_beamOf 8 = .ok (.iload_n 0, 1) := by decide +kernel
theorem dX2_beamOf_9 : decode cX2_beamOf 9 = .ok (.bipush 105, 2) := by decide +kernel
theorem dX2_beamOf_11 : decode cX2_beamOf 11 = .ok (.if_icmp .ne 5, 3) := by decide +kernel
theorem dX2_beamOf_14 : decode cX2_beamOf 14 = .ok (.iconst 1, 1) := by decide +kernel
theorem dX2_beamOf_15 : decode cX2_beamOf 15 = .ok (.ireturn, 1) := by decide +kernel
theorem dX2_beamOf_16 : decode cX2_beamOf 16 = .ok (.iload_n 0, 1) := by decide +kernel
theorem dX2_beamOf_17 : decode cX2_beamOf 17 = .ok (.bipush 98, 2) := by decide +kernel
theorem dX2_beamOf_19 : decode cX2_beamOf 19 = .ok (.if_icmp .ne 7, 3) := by decide +kernel
theorem dX2_beamOf_22 : decode cX2_beamOf 22 = .ok (.iconst 2, 1) := by decide +kernel
theorem dX2_beamOf_23 : decode cX2_beamOf 23 = .ok (.goto 5, 3) := by decide +kernel
theorem dX2_beamOf_26 : decode cX2_beamOf 26 = .ok (.bipush (-6), 2) := by decide +kernel
theorem dX2_beamOf_28 : decode cX2_beamOf 28 = .ok (.ireturn, 1) := by decide +kernel
set_option maxRecDepth 20000 in
theorem ggX2_happenIn_X2_numberIn : GoodIn wsX2_happenIn wsX2_numberIn := goodIn_r _ [7, 2, 64, 65] (by decide +kernel) (by decide +kernel)
set_option maxRecDepth 20000 in
theorem gX2_happenIn_X2_numberIn : GoodIn wsX2_happenIn (wsV RX2 39 RX2 yX2_numberIn wsX2_numberIn) := goodIn_app (goodIn_of _ (by decide +kernel)) ggX2_happenIn_X2_numberIn
set_option maxRecDepth 20000 in
theorem ggX2_happenIn_X2_letGoBy : GoodIn wsX2_happenIn wsX2_letGoBy := goodIn_r _ [10, 11, 12, 13, 14, 15, 16, 17, 18, 19, 20, 21, 66] (by decide +kernel) (by decide +kernel)
set_option maxRecDepth 20000 in
theorem gX2_happenIn_X2_letGoBy : GoodIn wsX2_happenIn (va_wsS RX2 43 yX2_letGoBy wsX2_letGoBy) := goodIn_app (goodIn_of _ (by decide +kernel)) ggX2_happenIn_X2_letGoBy
set_option maxRecDepth 20000 in
theorem ggX2_happenIn_X2_changeBeams : GoodIn wsX2_happenIn wsX2_changeBeams := goodIn_r _ [25, 2, 26, 27, 28, 29, 30, 6, 31, 32, 33, 34, 14, 35, 16, 36, 37, 38, 39, 40, 41, 42, 43, 44, 45, 46, 47, 48, 49, 50, 51, 52, 53, 54, 55, 56, 57, 58, 59, 60, 61, 62, 63, 64, 65, 66] (by decide +kernel) (by decide +kernel)
set_option maxRecDepth 20000 in
theorem gX2_happenIn_X2_changeBeams : GoodIn wsX2_happenIn (wsV RX2 47 RX2 yX2_changeBeams wsX2_changeBeams) := goodIn_app (goodIn_of _ (by decide +kernel)) ggX2_happenIn_X2_changeBeams
theorem dX2_happenIn_0 : decode cX2_happenIn 0 = .ok (.iconst 0, 1) := by decide +kernel
theorem dX2_happenIn_1 : decode cX2_happenIn 1 = .ok (.istore_n 2, 1) := by decide +kernel
theorem dX2_happenIn_2 : decode cX2_happenIn 2 = .ok (.iconst 0, 1) := by decide +kernel
theorem dX2_happenIn_3 : decode cX2_happenIn 3 = .ok (.istore_n 3, 1) := by decide +kernel
theorem dX2_happenIn_4 : decode cX2_happenIn 4 = .ok (.iconst 0, 1) := by decide +kernel
theorem dX2_happenIn_5 : decode cX2_happenIn 5 = .ok (.istore 4, 2) := by decide +kernel
theorem dX2_happenIn_7 : decode cX2_happenIn 7 = .ok (.iload 4, 2) := by decide +kernel
theorem dX2_happenIn_9 : decode cX2_happenIn 9 = .ok (.aload_n 0, 1) := by decide +kernel
theorem dX2_happenIn_10 : decode cX2_happenIn 10 = .ok (.getfield 15, 3) := by decide +kernel
theorem dX2_happenIn_13 : decode cX2_happenIn 13 = .ok (.if_icmp .gt 91, 3) := by decide +kernel
theorem dX2_happenIn_16 : decode cX2_happenIn 16 = .ok (.iload 4, 2) := by decide +kernel
theorem dX2_happenIn_18 : decode cX2_happenIn 18 = .ok (.aload_n 0, 1) := by decide +kernel
theorem dX2_happenIn_19 : decode cX2_happenIn 19 = .ok (.getfield 15, 3) := by decide +kernel
theorem dX2_happenIn_22 : decode cX2_happenIn 22 = .ok (.if_icmp .eq 15, 3) := by decide +kernel
theorem dX2_happenIn_25 : decode cX2_happenIn 25 = .ok (.aload_n 0, 1) := by decide +kernel
theorem dX2_happenIn_26 : decode cX2_happenIn 26 = .ok (.getfield 11, 3) := by decide +kernel
theorem dX2_happenIn_29 : decode cX2_happenIn 29 = .ok (.iload 4, 2) := by decide +kernel
theorem dX2_happenIn_31 : decode cX2_happenIn 31 = .ok (.caload, 1) := by decide +kernel
theorem dX2_happenIn_32 : decode cX2_happenIn 32 = .ok (.bipush 59, 2) := by decide +kernel
theorem dX2_happenIn_34 : decode cX2_happenIn 34 = .ok (.if_icmp .ne 7, 3) := by decide +kernel
theorem dX2_happenIn_37 : decode cX2_happenIn 37 = .ok (.iconst 1, 1) := by decide +kernel
theorem dX2_happenIn_38 : decode cX2_happenIn 38 = .ok (.goto 4, 3) := by decide +kernel
theorem dX2_happenIn_41 : decode cX2_happenIn 41 = .ok (.iconst 0, 1) := by decide +kernel
theorem dX2_happenIn_42 : decode cX2_happenIn 42 = .ok (.istore 5, 2) := by decide +kernel
theorem dX2_happenIn_44 : decode cX2_happenIn 44 = .ok (.iload 5, 2) := by decide +kernel
theorem dX2_happenIn_46 : decode cX2_happenIn 46 = .ok (.ifCond .eq 52, 3) := by decide +kernel
theorem dX2_happenIn_49 : decode cX2_happenIn 49 = .ok (.iload_n 3, 1) := by decide +kernel
theorem dX2_happenIn_50 : decode cX2_happenIn 50 = .ok (.iload 4, 2) := by decide +kernel
theorem dX2_happenIn_52 : decode cX2_happenIn 52 = .ok (.if_icmp .ge 46, 3) := by decide +kernel
theorem dX2_happenIn_55 : decode cX2_happenIn 55 = .ok (.aload_n 0, 1) := by decide +kernel
theorem dX2_happenIn_56 : decode cX2_happenIn 56 = .ok (.getfield 11, 3) := by decide +kernel
theorem dX2_happenIn_59 : decode cX2_happenIn 59 = .ok (.iload_n 3, 1) := by decide +kernel
theorem dX2_happenIn_60 : decode cX2_happenIn 60 = .ok (.caload, 1) := by decide +kernel
theorem dX2_happenIn_61 : decode cX2_happenIn 61 = .ok (.bipush 46, 2) := by decide +kernel
theorem dX2_happenIn_63 : decode cX2_happenIn 63 = .ok (.if_icmp .ne 19, 3) := by decide +kernel
theorem dX2_happenIn_66 : decode cX2_happenIn 66 = .ok (.aload_n 1, 1) := by decide +kernel
theorem dX2_happenIn_67 : decode cX2_happenIn 67 = .ok (.aload_n 0, 1) := by decide +kernel
theorem dX2_happenIn_68 : decode cX2_happenIn 68 = .ok (.iload_n 3, 1) := by decide +kernel
theorem dX2_happenIn_69 : decode cX2_happenIn 69 = .ok (.iconst 1, 1) := by decide +kernel
theorem dX2_happenIn_70 : decode cX2_happenIn 70 = .ok (.iadd, 1) := by decide +kernel
theorem dX2_happenIn_71 : decode cX2_happenIn 71 = .ok (.iload 4, 2) := by decide +kernel
theorem dX2_happenIn_73 : decode cX2_happenIn 73 = .ok (.invokevirtual 39, 3) := by decide +kernel
theorem dX2_happenIn_76 : decode cX2_happenIn 76 = .ok (.invokestatic 43, 3) := by decide +kernel
theorem dX2_happenIn_79 : decode cX2_happenIn 79 = .ok (.goto 14, 3) := by decide +kernel
theorem dX2_happenIn_82 : decode cX2_happenIn 82 = .ok (.iload_n 2, 1) := by decide +kernel
theorem dX2_happenIn_83 : decode cX2_happenIn 83 = .ok (.aload_n 0, 1) := by decide +kernel
theorem dX2_happenIn_84 : decode cX2_happenIn 84 = .ok (.aload_n 1, 1) := by decide +kernel
theorem dX2_happenIn_85 : decode cX2_happenIn 85 = .ok (.iload_n 3, 1) := by decide +kernel
theorem dX2_happenIn_86 : decode cX2_happenIn 86 = .ok (.iload 4, 2) := by decide +kernel
theorem dX2_happenIn_88 : decode cX2_happenIn 88 = .ok (.invokevirtual 47, 3) := by decide +kernel
theorem dX2_happenIn_91 : decode cX2_happenIn 91 = .ok (.iadd, 1) := by decide +kernel
theorem dX2_happenIn_92 : decode cX2_happenIn 92 = .ok (.istore_n 2, 1) := by decide +kernel
theorem dX2_happenIn_93 : decode cX2_happenIn 93 = .ok (.iload 4, 2) := by decide +kernel
theorem dX2_happenIn_95 : decode cX2_happenIn 95 = .ok (.iconst 1, 1) := by decide +kernel
theorem dX2_happenIn_96 : decode cX2_happenIn 96 = .ok (.iadd, 1) := by decide +kernel
theorem dX2_happenIn_97 : decode cX2_happenIn 97 = .ok (.istore_n 3, 1) := by decide +kernel
theorem dX2_happenIn_98 : decode cX2_happenIn 98 = .ok (.iinc 4 1, 3) := by decide +kernel
theorem dX2_happenIn_101 : decode cX2_happenIn 101 = .ok (.goto (-94), 3) := by decide +kernel
theorem dX2_happenIn_104 : decode cX2_happenIn 104 = .ok (.iload_n 2, 1) := by decide +kernel
theorem dX2_happenIn_105 : decode cX2_happenIn 105 = .ok (.ireturn, 1) := by decide +kernel
set_option maxRecDepth 20000 in
theorem ggX2_changeBeams_X3_isNoGate : GoodIn wsX2_changeBeams wsX3_isNoGate := goodIn_r _ [4] (by decide +kernel) (by decide +kernel)
set_option maxRecDepth 20000 in
theorem gX2_changeBeams_X3_isNoGate_n51 : GoodIn wsX2_changeBeams (wsX3_isNoGate) := ggX2_changeBeams_X3_isNoGate
set_option maxRecDepth 20000 in
theorem ggX2_changeBeams_X2_beamOf : GoodIn wsX2_changeBeams wsX2_beamOf := goodIn_r _ [8] (by decide +kernel) (by decide +kernel)
set_option maxRecDepth 20000 in
theorem gX2_changeBeams_X2_beamOf : GoodIn wsX2_changeBeams (va_wsS RX2 29 yX2_beamOf wsX2_beamOf) := goodIn_app (goodIn_of _ (by decide +kernel)) ggX2_changeBeams_X2_beamOf
set_option maxRecDepth 20000 in
theorem ggX2_changeBeams_X0_change : GoodIn wsX2_changeBeams wsX0_change := goodIn_r _ [13, 14, 15, 16, 17, 12, 18, 19, 20, 21, 22, 23, 24, 25, 26, 27, 28, 29, 30, 31, 32, 33, 34, 35, 36, 37, 38, 39, 40, 41, 42, 45] (by decide +kernel) (by decide +kernel)
set_option maxRecDepth 20000 in
theorem gX2_changeBeams_X0_change : GoodIn wsX2_changeBeams (wsV RX2 55 RX0 yX0_change wsX0_change) := goodIn_app (goodIn_of _ (by decide +kernel)) ggX2_changeBeams_X0_change
theorem dX2_changeBeams_0 : decode cX2_changeBeams 0 = .ok (.aload_n 0, 1) := by decide +kernel
theorem dX2_changeBeams_1 : decode cX2_changeBeams 1 = .ok (.getfield 11, 3) := by decide +kernel
theorem dX2_changeBeams_4 : decode cX2_changeBeams 4 = .ok (.iload_n 2, 1) := by decide +kernel
theorem dX2_changeBeams_5 : decode cX2_changeBeams 5 = .ok (.caload, 1) := by decide +kernel
theorem dX2_changeBeams_6 : decode cX2_changeBeams 6 = .ok (.bipush 48, 2) := by decide +kernel
theorem dX2_changeBeams_8 : decode cX2_changeBeams 8 = .ok (.isub, 1) := by decide +kernel
theorem dX2_changeBeams_9 : decode cX2_changeBeams 9 = .ok (.istore 4, 2) := by decide +kernel
theorem dX2_changeBeams_11 : decode cX2_changeBeams 11 = .ok (.iload 4, 2) := by decide +kernel
theorem dX2_changeBeams_13 : decode cX2_changeBeams 13 = .ok (.invokestatic 51, 3) := by decide +kernel
theorem dX2_changeBeams_16 : decode cX2_changeBeams 16 = .ok (.ifCond .eq 5, 3) := by decide +kernel
theorem dX2_changeBeams_19 : decode cX2_changeBeams 19 = .ok (.iconst 0, 1) := by decide +kernel
theorem dX2_changeBeams_20 : decode cX2_changeBeams 20 = .ok (.ireturn, 1) := by decide +kernel
theorem dX2_changeBeams_21 : decode cX2_changeBeams 21 = .ok (.iconst 0, 1) := by decide +kernel
theorem dX2_changeBeams_22 : decode cX2_changeBeams 22 = .ok (.istore 5, 2) := by decide +kernel
theorem dX2_changeBeams_24 : decode cX2_changeBeams 24 = .ok (.iload_n 2, 1) := by decide +kernel
theorem dX2_changeBeams_25 : decode cX2_changeBeams 25 = .ok (.iconst 1, 1) := by decide +kernel
theorem dX2_changeBeams_26 : decode cX2_changeBeams 26 = .ok (.iadd, 1) := by decide +kernel
theorem dX2_changeBeams_27 : decode cX2_changeBeams 27 = .ok (.istore 6, 2) := by decide +kernel
theorem dX2_changeBeams_29 : decode cX2_changeBeams 29 = .ok (.iload 6, 2) := by decide +kernel
theorem dX2_changeBeams_31 : decode cX2_changeBeams 31 = .ok (.iload_n 3, 1) := by decide +kernel
theorem dX2_changeBeams_32 : decode cX2_changeBeams 32 = .ok (.if_icmp .ge 40, 3) := by decide +kernel
theorem dX2_changeBeams_35 : decode cX2_changeBeams 35 = .ok (.aload_n 0, 1) := by decide +kernel
theorem dX2_changeBeams_36 : decode cX2_changeBeams 36 = .ok (.getfield 11, 3) := by decide +kernel
theorem dX2_changeBeams_39 : decode cX2_changeBeams 39 = .ok (.iload 6, 2) := by decide +kernel
theorem dX2_changeBeams_41 : decode cX2_changeBeams 41 = .ok (.caload, 1) := by decide +kernel
theorem dX2_changeBeams_42 : decode cX2_changeBeams 42 = .ok (.invokestatic 29, 3) := by decide +kernel
theorem dX2_changeBeams_45 : decode cX2_changeBeams 45 = .ok (.istore 7, 2) := by decide +kernel
theorem dX2_changeBeams_47 : decode cX2_changeBeams 47 = .ok (.iload 7, 2) := by decide +kernel
theorem dX2_changeBeams_49 : decode cX2_changeBeams 49 = .ok (.ifCond .lt 17, 3) := by decide +kernel
theorem dX2_changeBeams_52 : decode cX2_changeBeams 52 = .ok (.aload_n 1, 1) := by decide +kernel
theorem dX2_changeBeams_53 : decode cX2_changeBeams 53 = .ok (.iload 4, 2) := by decide +kernel
theorem dX2_changeBeams_55 : decode cX2_changeBeams 55 = .ok (.iload 7, 2) := by decide +kernel
theorem dX2_changeBeams_57 : decode cX2_changeBeams 57 = .ok (.invokevirtual 55, 3) := by decide +kernel
theorem dX2_changeBeams_60 : decode cX2_changeBeams 60 = .ok (.ifCond .ne 6, 3) := by decide +kernel
theorem dX2_changeBeams_63 : decode cX2_changeBeams 63 = .ok (.iinc 5 1, 3) := by decide +kernel
theorem dX2_changeBeams_66 : decode cX2_changeBeams 66 = .ok (.iinc 6 1, 3) := by decide +kernel
theorem dX2_changeBeams_69 : decode cX2_changeBeams 69 = .ok (.goto (-40), 3) := by decide +kernel
theorem dX2_changeBeams_72 : decode cX2_changeBeams 72 = .ok (.iload 5, 2) := by decide +kernel
theorem dX2_changeBeams_74 : decode cX2_changeBeams 74 = .ok (.ireturn, 1) := by decide +kernel
theorem dX2_numberIn_0 : decode cX2_numberIn 0 = .ok (.iconst 0, 1) := by decide +kernel
theorem dX2_numberIn_1 : decode cX2_numberIn 1 = .ok (.istore_n 3, 1) := by decide +kernel
theorem dX2_numberIn_2 : decode cX2_numberIn 2 = .ok (.iload_n 1, 1) := by decide +kernel
theorem dX2_numberIn_3 : decode cX2_numberIn 3 = .ok (.istore 4, 2) := by decide +kernel
theorem dX2_numberIn_5 : decode cX2_numberIn 5 = .ok (.iload 4, 2) := by decide +kernel
theorem dX2_numberIn_7 : decode cX2_numberIn 7 = .ok (.iload_n 2, 1) := by decide +kernel
theorem dX2_numberIn_8 : decode cX2_numberIn 8 = .ok (.if_icmp .ge 25, 3) := by decide +kernel
theorem dX2_numberIn_11 : decode cX2_numberIn 11 = .ok (.iload_n 3, 1) := by decide +kernel
theorem dX2_numberIn_12 : decode cX2_numberIn 12 = .ok (.bipush 10, 2) := by decide +kernel
theorem dX2_numberIn_14 : decode cX2_numberIn 14 = .ok (.imul, 1) := by decide +kernel
theorem dX2_numberIn_15 : decode cX2_numberIn 15 = .ok (.aload_n 0, 1) := by decide +kernel
theorem dX2_numberIn_16 : decode cX2_numberIn 16 = .ok (.getfield 11, 3) := by decide +kernel
theorem dX2_numberIn_19 : decode cX2_numberIn 19 = .ok (.iload 4, 2) := by decide +kernel
theorem dX2_numberIn_21 : decode cX2_numberIn 21 = .ok (.caload, 1) := by decide +kernel
theorem dX2_numberIn_22 : decode cX2_numberIn 22 = .ok (.iadd, 1) := by decide +kernel
theorem dX2_numberIn_23 : decode cX2_numberIn 23 = .ok (.bipush 48, 2) := by decide +kernel
theorem dX2_numberIn_25 : decode cX2_numberIn 25 = .ok (.isub, 1) := by decide +kernel
theorem dX2_numberIn_26 : decode cX2_numberIn 26 = .ok (.istore_n 3, 1) := by decide +kernel
theorem dX2_numberIn_27 : decode cX2_numberIn 27 = .ok (.iinc 4 1, 3) := by decide +kernel
theorem dX2_numberIn_30 : decode cX2_numberIn 30 = .ok (.goto (-25), 3) := by decide +kernel
theorem dX2_numberIn_33 : decode cX2_numberIn 33 = .ok (.iload_n 3, 1) := by decide +kernel
theorem dX2_numberIn_34 : decode cX2_numberIn 34 = .ok (.ireturn, 1) := by decide +kernel
set_option maxRecDepth 20000 in
theorem ggX2_letGoBy_X0_hasRoomFor : GoodIn wsX2_letGoBy wsX0_hasRoomFor := goodIn_r _ [5, 6, 7, 12] (by decide +kernel) (by decide +kernel)
set_option maxRecDepth 20000 in
theorem gX2_letGoBy_X0_hasRoomFor : GoodIn wsX2_letGoBy (wsV RX2 60 RX0 yX0_hasRoomFor wsX0_hasRoomFor) := goodIn_app (goodIn_of _ (by decide +kernel)) ggX2_letGoBy_X0_hasRoomFor
set_option maxRecDepth 20000 in
theorem ggX2_letGoBy_X0_goBy : GoodIn wsX2_letGoBy wsX0_goBy := goodIn_r _ [11, 6, 12] (by decide +kernel) (by decide +kernel)
set_option maxRecDepth 20000 in
theorem gX2_letGoBy_X0_goBy : GoodIn wsX2_letGoBy (wsV RX2 63 RX0 yX0_goBy wsX0_goBy) := goodIn_app (goodIn_of _ (by decide +kernel)) ggX2_letGoBy_X0_goBy
theorem dX2_letGoBy_0 : decode cX2_letGoBy 0 = .ok (.aload_n 0, 1) := by decide +kernel
theorem dX2_letGoBy_1 : decode cX2_letGoBy 1 = .ok (.iload_n 1, 1) := by decide +kernel
theorem dX2_letGoBy_2 : decode cX2_letGoBy 2 = .ok (.invokevirtual 60, 3) := by decide +kernel
theorem dX2_letGoBy_5 : decode cX2_letGoBy 5 = .ok (.ifCond .eq 8, 3) := by decide +kernel
theorem dX2_letGoBy_8 : decode cX2_letGoBy 8 = .ok (.aload_n 0, 1) := by decide +kernel
theorem dX2_letGoBy_9 : decode cX2_letGoBy 9 = .ok (.iload_n 1, 1) := by decide +kernel
theorem dX2_letGoBy_10 : decode cX2_letGoBy 10 = .ok (.invokevirtual 63, 3) := by decide +kernel
theorem dX2_letGoBy_13 : decode cX2_letGoBy 13 = .ok (.return_, 1) := by decide +kernel
end
section
set_option maxRecDepth 20000 in
theorem ggX3_init_X0_init : GoodIn wsX3_init wsX0_init := goodIn_r _ [24, 25, 2, 3, 18, 26, 27, 28, 6, 29, 43] (by decide +kernel) (by decide +kernel)
set_option maxRecDepth 20000 in
theorem gX3_init_X0_init : GoodIn wsX3_init (wsX0_init) := ggX3_init_X0_init
set_option maxRecDepth 20000 in
theorem ggX3_init_X2_init : GoodIn wsX3_init wsX2_init := goodIn_r _ [31, 32, 2, 3, 33, 34, 35, 50, 51] (by decide +kernel) (by decide +kernel)
set_option maxRecDepth 20000 in
theorem gX3_init_X2_init_n21 : GoodIn wsX3_init (wsX2_init) := ggX3_init_X2_init
set_option maxRecDepth 20000 in
theorem ggX3_init_X1_init : GoodIn wsX3_init wsX1_init := goodIn_r _ [37, 38, 2, 3, 39, 18, 40, 41, 42, 52, 53, 54] (by decide +kernel) (by decide +kernel)
set_option maxRecDepth 20000 in
theorem gX3_init_X1_init_n28 : GoodIn wsX3_init (wsX1_init) := ggX3_init_X1_init
theorem dX3_init_0 : decode cX3_init 0 = .ok (.aload_n 0, 1) := by decide +kernel
theorem dX3_init_1 : decode cX3_init 1 = .ok (.invokespecial 1, 3) := by decide +kernel
theorem dX3_init_4 : decode cX3_init 4 = .ok (.aload_n 0, 1) := by decide +kernel
theorem dX3_init_5 : decode cX3_init 5 = .ok (.new 7, 3) := by decide +kernel
theorem dX3_init_8 : decode cX3_init 8 = .ok (.dup, 1) := by decide +kernel
theorem dX3_init_9 : decode cX3_init 9 = .ok (.invokespecial 9, 3) := by decide +kernel
theorem dX3_init_12 : decode cX3_init 12 = .ok (.putfield 10, 3) := by decide +kernel
theorem dX3_init_15 : decode cX3_init 15 = .ok (.aload_n 0, 1) := by decide +kernel
theorem dX3_init_16 : decode cX3_init 16 = .ok (.new 7, 3) := by decide +kernel
theorem dX3_init_19 : decode cX3_init 19 = .ok (.dup, 1) := by decide +kernel
theorem dX3_init_20 : decode cX3_init 20 = .ok (.invokespecial 9, 3) := by decide +kernel
theorem dX3_init_23 : decode cX3_init 23 = .ok (.putfield 16, 3) := by decide +kernel
theorem dX3_init_26 : decode cX3_init 26 = .ok (.aload_n 0, 1) := by decide +kernel
theorem dX3_init_27 : decode cX3_init 27 = .ok (.new 19, 3) := by decide +kernel
theorem dX3_init_30 : decode cX3_init 30 = .ok (.dup, 1) := by decide +kernel
theorem dX3_init_31 : decode cX3_init 31 = .ok (.invokespecial 21, 3) := by decide +kernel
theorem dX3_init_34 : decode cX3_init 34 = .ok (.putfield 22, 3) := by decide +kernel
theorem dX3_init_37 : decode cX3_init 37 = .ok (.aload_n 0, 1) := by decide +kernel
theorem dX3_init_38 : decode cX3_init 38 = .ok (.new 26, 3) := by decide +kernel
theorem dX3_init_41 : decode cX3_init 41 = .ok (.dup, 1) := by decide +kernel
theorem dX3_init_42 : decode cX3_init 42 = .ok (.invokespecial 28, 3) := by decide +kernel
theorem dX3_init_45 : decode cX3_init 45 = .ok (.putfield 29, 3) := by decide +kernel
theorem dX3_init_48 : decode cX3_init 48 = .ok (.aload_n 0, 1) := by decide +kernel
theorem dX3_init_49 : decode cX3_init 49 = .ok (.iconst 2, 1) := by decide +kernel
theorem dX3_init_50 : decode cX3_init 50 = .ok (.bipush 86, 2) := by decide +kernel
theorem dX3_init_52 : decode cX3_init 52 = .ok (.multianewarray 33 2, 4) := by decide +kernel
theorem dX3_init_56 : decode cX3_init 56 = .ok (.putfield 35, 3) := by decide +kernel
theorem dX3_init_59 : decode cX3_init 59 = .ok (.aload_n 0, 1) := by decide +kernel
theorem dX3_init_60 : decode cX3_init 60 = .ok (.iconst 2, 1) := by decide +kernel
theorem dX3_init_61 : decode cX3_init 61 = .ok (.newarray .boolean, 2) := by decide +kernel
theorem dX3_init_63 : decode cX3_init 63 = .ok (.putfield 38, 3) := by decide +kernel
theorem dX3_init_66 : decode cX3_init 66 = .ok (.return_, 1) := by decide +kernel
set_option maxRecDepth 20000 in
theorem ggX3_set_X1_keep : GoodIn wsX3_set wsX1_keep := goodIn_r _ [10, 11, 12, 13, 14, 15, 16, 17, 18, 19, 20, 21, 22, 23, 24, 32, 33, 34] (by decide +kernel) (by decide +kernel)
set_option maxRecDepth 20000 in
theorem gX3_set_X1_keep : GoodIn wsX3_set (wsV RX3 52 RX1 yX1_keep wsX1_keep) := goodIn_app (goodIn_of _ (by decide +kernel)) ggX3_set_X1_keep
theorem dX3_set_0 : decode cX3_set 0 = .ok (.iload_n 1, 1) := by decide +kernel
theorem dX3_set_1 : decode cX3_set 1 = .ok (.ifCond .lt 8, 3) := by decide +kernel
theorem dX3_set_4 : decode cX3_set 4 = .ok (.iload_n 1, 1) := by decide +kernel
theorem dX3_set_5 : decode cX3_set 5 = .ok (.iconst 3, 1) := by decide +kernel
theorem dX3_set_6 : decode cX3_set 6 = .ok (.if_icmp .lt 6, 3) := by decide +kernel
theorem dX3_set_9 : decode cX3_set 9 = .ok (.bipush (-2), 2) := by decide +kernel
theorem dX3_set_11 : decode cX3_set 11 = .ok (.ireturn, 1) := by decide +kernel
theorem dX3_set_12 : decode cX3_set 12 = .ok (.iload_n 2, 1) := by decide +kernel
theorem dX3_set_13 : decode cX3_set 13 = .ok (.getstatic 42, 3) := by decide +kernel
theorem dX3_set_16 : decode cX3_set 16 = .ok (.iload_n 1, 1) := by decide +kernel
theorem dX3_set_17 : decode cX3_set 17 = .ok (.iaload, 1) := by decide +kernel
theorem dX3_set_18 : decode cX3_set 18 = .ok (.if_icmp .lt 12, 3) := by decide +kernel
theorem dX3_set_21 : decode cX3_set 21 = .ok (.iload_n 2, 1) := by decide +kernel
theorem dX3_set_22 : decode cX3_set 22 = .ok (.getstatic 46, 3) := by decide +kernel
theorem dX3_set_25 : decode cX3_set 25 = .ok (.iload_n 1, 1) := by decide +kernel
theorem dX3_set_26 : decode cX3_set 26 = .ok (.iaload, 1) := by decide +kernel
theorem dX3_set_27 : decode cX3_set 27 = .ok (.if_icmp .le 6, 3) := by decide +kernel
theorem dX3_set_30 : decode cX3_set 30 = .ok (.bipush (-2), 2) := by decide +kernel
theorem dX3_set_32 : decode cX3_set 32 = .ok (.ireturn, 1) := by decide +kernel
theorem dX3_set_33 : decode cX3_set 33 = .ok (.aload_n 0, 1) := by decide +kernel
theorem dX3_set_34 : decode cX3_set 34 = .ok (.getfield 29, 3) := by decide +kernel
theorem dX3_set_37 : decode cX3_set 37 = .ok (.aload_n 0, 1) := by decide +kernel
theorem dX3_set_38 : decode cX3_set 38 = .ok (.getfield 10, 3) := by decide +kernel
theorem dX3_set_41 : decode cX3_set 41 = .ok (.getfield 49, 3) := by decide +kernel
theorem dX3_set_44 : decode cX3_set 44 = .ok (.invokevirtual 52, 3) := by decide +kernel
theorem dX3_set_47 : decode cX3_set 47 = .ok (.aload_n 0, 1) := by decide +kernel
theorem dX3_set_48 : decode cX3_set 48 = .ok (.getfield 10, 3) := by decide +kernel
theorem dX3_set_51 : decode cX3_set 51 = .ok (.getfield 49, 3) := by decide +kernel
theorem dX3_set_54 : decode cX3_set 54 = .ok (.iload_n 1, 1) := by decide +kernel
theorem dX3_set_55 : decode cX3_set 55 = .ok (.iaload, 1) := by decide +kernel
theorem dX3_set_56 : decode cX3_set 56 = .ok (.istore_n 3, 1) := by decide +kernel
theorem dX3_set_57 : decode cX3_set 57 = .ok (.aload_n 0, 1) := by decide +kernel
theorem dX3_set_58 : decode cX3_set 58 = .ok (.getfield 10, 3) := by decide +kernel
theorem dX3_set_61 : decode cX3_set 61 = .ok (.getfield 49, 3) := by decide +kernel
theorem dX3_set_64 : decode cX3_set 64 = .ok (.iload_n 1, 1) := by decide +kernel
theorem dX3_set_65 : decode cX3_set 65 = .ok (.iload_n 2, 1) := by decide +kernel
theorem dX3_set_66 : decode cX3_set 66 = .ok (.iastore, 1) := by decide +kernel
theorem dX3_set_67 : decode cX3_set 67 = .ok (.iload_n 3, 1) := by decide +kernel
theorem dX3_set_68 : decode cX3_set 68 = .ok (.ireturn, 1) := by decide +kernel
set_option maxRecDepth 20000 in
theorem ggX3_event_X3_isNoGate : GoodIn wsX3_event wsX3_isNoGate := goodIn_r _ [7] (by decide +kernel) (by decide +kernel)
set_option maxRecDepth 20000 in
theorem gX3_event_X3_isNoGate : GoodIn wsX3_event (va_wsS RX3 56 yX3_isNoGate wsX3_isNoGate) := goodIn_app (goodIn_of _ (by decide +kernel)) ggX3_event_X3_isNoGate
set_option maxRecDepth 20000 in
theorem ggX3_event_X1_keep : GoodIn wsX3_event wsX1_keep := goodIn_r _ [12, 13, 14, 15, 16, 17, 18, 19, 20, 6, 21, 22, 23, 24, 25, 67, 68, 69] (by decide +kernel) (by decide +kernel)
set_option maxRecDepth 20000 in
theorem gX3_event_X1_keep : GoodIn wsX3_event (wsV RX3 52 RX1 yX1_keep wsX1_keep) := goodIn_app (goodIn_of _ (by decide +kernel)) ggX3_event_X1_keep
set_option maxRecDepth 20000 in
theorem ggX3_event_X0_change : GoodIn wsX3_event wsX0_change := goodIn_r _ [30, 31, 32, 33, 34, 29, 35, 36, 37, 38, 39, 40, 41, 42, 43, 44, 45, 46, 47, 48, 49, 50, 51, 52, 53, 54, 55, 56, 57, 58, 59, 66] (by decide +kernel) (by decide +kernel)
set_option maxRecDepth 20000 in
theorem gX3_event_X0_change : GoodIn wsX3_event (wsV RX3 60 RX0 yX0_change wsX0_change) := goodIn_app (goodIn_of _ (by decide +kernel)) ggX3_event_X0_change
theorem dX3_event_0 : decode cX3_event 0 = .ok (.iload_n 1, 1) := by decide +kernel
theorem dX3_event_1 : decode cX3_event 1 = .ok (.invokestatic 56, 3) := by decide +kernel
theorem dX3_event_4 : decode cX3_event 4 = .ok (.ifCond .eq 5, 3) := by decide +kernel
theorem dX3_event_7 : decode cX3_event 7 = .ok (.iconst (-1), 1) := by decide +kernel
theorem dX3_event_8 : decode cX3_event 8 = .ok (.ireturn, 1) := by decide +kernel
theorem dX3_event_9 : decode cX3_event 9 = .ok (.iload_n 2, 1) := by decide +kernel
theorem dX3_event_10 : decode cX3_event 10 = .ok (.ifCond .lt 8, 3) := by decide +kernel
theorem dX3_event_13 : decode cX3_event 13 = .ok (.iload_n 2, 1) := by decide +kernel
theorem dX3_event_14 : decode cX3_event 14 = .ok (.iconst 3, 1) := by decide +kernel
theorem dX3_event_15 : decode cX3_event 15 = .ok (.if_icmp .lt 6, 3) := by decide +kernel
theorem dX3_event_18 : decode cX3_event 18 = .ok (.bipush (-2), 2) := by decide +kernel
theorem dX3_event_20 : decode cX3_event 20 = .ok (.ireturn, 1) := by decide +kernel
theorem dX3_event_21 : decode cX3_event 21 = .ok (.aload_n 0, 1) := by decide +kernel
theorem dX3_event_22 : decode cX3_event 22 = .ok (.getfield 29, 3) := by decide +kernel
theorem dX3_event_25 : decode cX3_event 25 = .ok (.aload_n 0, 1) := by decide +kernel
theorem dX3_event_26 : decode cX3_event 26 = .ok (.getfield 10, 3) := by decide +kernel
theorem dX3_event_29 : decode cX3_event 29 = .ok (.getfield 49, 3) := by decide +kernel
theorem dX3_event_32 : decode cX3_event 32 = .ok (.invokevirtual 52, 3) := by decide +kernel
theorem dX3_event_35 : decode cX3_event 35 = .ok (.aload_n 0, 1) := by decide +kernel
theorem dX3_event_36 : decode cX3_event 36 = .ok (.getfield 10, 3) := by decide +kernel
theorem dX3_event_39 : decode cX3_event 39 = .ok (.iload_n 1, 1) := by decide +kernel
theorem dX3_event_40 : decode cX3_event 40 = .ok (.iload_n 2, 1) := by decide +kernel
theorem dX3_event_41 : decode cX3_event 41 = .ok (.invokevirtual 60, 3) := by decide +kernel
theorem dX3_event_44 : decode cX3_event 44 = .ok (.ireturn, 1) := by decide +kernel
set_option maxRecDepth 20000 in
theorem ggX3_pass_X0_hasRoomFor : GoodIn wsX3_pass wsX0_hasRoomFor := goodIn_r _ [8, 9, 10, 66] (by decide +kernel) (by decide +kernel)
set_option maxRecDepth 20000 in
theorem gX3_pass_X0_hasRoomFor : GoodIn wsX3_pass (wsV RX3 64 RX0 yX0_hasRoomFor wsX0_hasRoomFor) := goodIn_app (goodIn_of _ (by decide +kernel)) ggX3_pass_X0_hasRoomFor
set_option maxRecDepth 20000 in
theorem ggX3_pass_X1_keep : GoodIn wsX3_pass wsX1_keep := goodIn_r _ [15, 16, 17, 18, 19, 20, 21, 22, 23, 24, 25, 26, 27, 28, 29, 67, 68, 69] (by decide +kernel) (by decide +kernel)
set_option maxRecDepth 20000 in
theorem gX3_pass_X1_keep : GoodIn wsX3_pass (wsV RX3 52 RX1 yX1_keep wsX1_keep) := goodIn_app (goodIn_of _ (by decide +kernel)) ggX3_pass_X1_keep
set_option maxRecDepth 20000 in
theorem ggX3_pass_X0_goBy : GoodIn wsX3_pass wsX0_goBy := goodIn_r _ [33, 9, 66] (by decide +kernel) (by decide +kernel)
set_option maxRecDepth 20000 in
theorem gX3_pass_X0_goBy : GoodIn wsX3_pass (wsV RX3 67 RX0 yX0_goBy wsX0_goBy) := goodIn_app (goodIn_of _ (by decide +kernel)) ggX3_pass_X0_goBy
set_option maxRecDepth 20000 in
theorem ggX3_pass_X0_blockedMask : GoodIn wsX3_pass wsX0_blockedMask := goodIn_r _ [37, 38, 39, 40, 7, 41, 9, 42, 43, 44, 45, 46, 47, 48, 49, 50, 51, 52, 66] (by decide +kernel) (by decide +kernel)
set_option maxRecDepth 20000 in
theorem gX3_pass_X0_blockedMask : GoodIn wsX3_pass (wsV RX3 71 RX0 yX0_blockedMask wsX0_blockedMask) := goodIn_app (goodIn_of _ (by decide +kernel)) ggX3_pass_X0_blockedMask
set_option maxRecDepth 20000 in
theorem ggX3_pass_J6_bitCount_0f7a4 : GoodIn wsX3_pass wsJ6_bitCount_0f7a4 := goodIn_r _ [56, 57, 58, 59] (by decide +kernel) (by decide +kernel)
set_option maxRecDepth 20000 in
theorem gX3_pass_J6_bitCount_0f7a4 : GoodIn wsX3_pass (va_wsS RX3 75 yJ6_bitCount_0f7a4 wsJ6_bitCount_0f7a4) := goodIn_app (goodIn_of _ (by decide +kernel)) ggX3_pass_J6_bitCount_0f7a4
theorem dX3_pass_0 : decode cX3_pass 0 = .ok (.iload_n 1, 1) := by decide +kernel
theorem dX3_pass_1 : decode cX3_pass 1 = .ok (.iconst 1, 1) := by decide +kernel
theorem dX3_pass_2 : decode cX3_pass 2 = .ok (.if_icmp .lt 10, 3) := by decide +kernel
theorem dX3_pass_5 : decode cX3_pass 5 = .ok (.iload_n 1, 1) := by decide +kernel
theorem dX3_pass_6 : decode cX3_pass 6 = .ok (.sipush 999, 3) := by decide +kernel
theorem dX3_pass_9 : decode cX3_pass 9 = .ok (.if_icmp .le 6, 3) := by decide +kernel
theorem dX3_pass_12 : decode cX3_pass 12 = .ok (.bipush (-2), 2) := by decide +kernel
theorem dX3_pass_14 : decode cX3_pass 14 = .ok (.ireturn, 1) := by decide +kernel
theorem dX3_pass_15 : decode cX3_pass 15 = .ok (.aload_n 0, 1) := by decide +kernel
theorem dX3_pass_16 : decode cX3_pass 16 = .ok (.getfield 10, 3) := by decide +kernel
theorem dX3_pass_19 : decode cX3_pass 19 = .ok (.iload_n 1, 1) := by decide +kernel
theorem dX3_pass_20 : decode cX3_pass 20 = .ok (.invokevirtual 64, 3) := by decide +kernel
theorem dX3_pass_23 : decode cX3_pass 23 = .ok (.ifCond .ne 6, 3) := by decide +kernel
theorem dX3_pass_26 : decode cX3_pass 26 = .ok (.bipush (-4), 2) := by decide +kernel
theorem dX3_pass_28 : decode cX3_pass 28 = .ok (.ireturn, 1) := by decide +kernel
theorem dX3_pass_29 : decode cX3_pass 29 = .ok (.aload_n 0, 1) := by decide +kernel
theorem dX3_pass_30 : decode cX3_pass 30 = .ok (.getfield 29, 3) := by decide +kernel
theorem dX3_pass_33 : decode cX3_pass 33 = .ok (.aload_n 0, 1) := by decide +kernel
theorem dX3_pass_34 : decode cX3_pass 34 = .ok (.getfield 10, 3) := by decide +kernel
theorem dX3_pass_37 : decode cX3_pass 37 = .ok (.getfield 49, 3) := by decide +kernel
theorem dX3_pass_40 : decode cX3_pass 40 = .ok (.invokevirtual 52, 3) := by decide +kernel
theorem dX3_pass_43 : decode cX3_pass 43 = .ok (.aload_n 0, 1) := by decide +kernel
theorem dX3_pass_44 : decode cX3_pass 44 = .ok (.getfield 10, 3) := by decide +kernel
theorem dX3_pass_47 : decode cX3_pass 47 = .ok (.iload_n 1, 1) := by decide +kernel
theorem dX3_pass_48 : decode cX3_pass 48 = .ok (.invokevirtual 67, 3) := by decide +kernel
theorem dX3_pass_51 : decode cX3_pass 51 = .ok (.aload_n 0, 1) := by decide +kernel
theorem dX3_pass_52 : decode cX3_pass 52 = .ok (.getfield 10, 3) := by decide +kernel
theorem dX3_pass_55 : decode cX3_pass 55 = .ok (.invokevirtual 71, 3) := by decide +kernel
theorem dX3_pass_58 : decode cX3_pass 58 = .ok (.invokestatic 75, 3) := by decide +kernel
theorem dX3_pass_61 : decode cX3_pass 61 = .ok (.ireturn, 1) := by decide +kernel
set_option maxRecDepth 20000 in
theorem ggX3_read_X2_firstFault : GoodIn wsX3_read wsX2_firstFault := goodIn_r _ [9, 10, 11, 12, 13, 8, 14, 15, 16, 17, 18, 19, 20, 21, 22, 23, 24, 25, 26, 117, 118] (by decide +kernel) (by decide +kernel)
set_option maxRecDepth 20000 in
theorem gX3_read_X2_firstFault : GoodIn wsX3_read (wsV RX3 81 RX2 yX2_firstFault wsX2_firstFault) := goodIn_app (goodIn_of _ (by decide +kernel)) ggX3_read_X2_firstFault
set_option maxRecDepth 20000 in
theorem ggX3_read_X1_keep : GoodIn wsX3_read wsX1_keep := goodIn_r _ [31, 32, 33, 34, 35, 36, 37, 38, 39, 40, 41, 42, 43, 44, 45, 119, 120, 121] (by decide +kernel) (by decide +kernel)
set_option maxRecDepth 20000 in
theorem gX3_read_X1_keep : GoodIn wsX3_read (wsV RX3 52 RX1 yX1_keep wsX1_keep) := goodIn_app (goodIn_of _ (by decide +kernel)) ggX3_read_X1_keep
set_option maxRecDepth 20000 in
theorem ggX3_read_X2_happenIn : GoodIn wsX3_read wsX2_happenIn := goodIn_r _ [49, 10, 11, 50, 51, 52, 8, 53, 54, 55, 56, 57, 58, 59, 60, 61, 62, 63, 64, 65, 66, 67, 68, 69, 70, 71, 72, 40, 73, 18, 19, 20, 74, 75, 76, 77, 78, 79, 80, 81, 82, 83, 84, 85, 86, 87, 88, 89, 90, 91, 92, 93, 94, 95, 96, 97, 98, 99, 100, 101, 102, 103, 104, 105, 117, 118, 116] (by decide +kernel) (by decide +kernel)
set_option maxRecDepth 20000 in
theorem gX3_read_X2_happenIn : GoodIn wsX3_read (wsV RX3 84 RX2 yX2_happenIn wsX2_happenIn) := goodIn_app (goodIn_of _ (by decide +kernel)) ggX3_read_X2_happenIn
set_option maxRecDepth 20000 in
theorem ggX3_read_X2_empty : GoodIn wsX3_read wsX2_empty := goodIn_r _ [109, 10, 117, 118] (by decide +kernel) (by decide +kernel)
set_option maxRecDepth 20000 in
theorem gX3_read_X2_empty : GoodIn wsX3_read (wsV RX3 88 RX2 yX2_empty wsX2_empty) := goodIn_app (goodIn_of _ (by decide +kernel)) ggX3_read_X2_empty
theorem dX3_read_0 : decode cX3_read 0 = .ok (.aload_n 0, 1) := by decide +kernel
theorem dX3_read_1 : decode cX3_read 1 = .ok (.getfield 22, 3) := by decide +kernel
theorem dX3_read_4 : decode cX3_read 4 = .ok (.invokevirtual 81, 3) := by decide +kernel
theorem dX3_read_7 : decode cX3_read 7 = .ok (.bipush (-6), 2) := by decide +kernel
theorem dX3_read_9 : decode cX3_read 9 = .ok (.if_icmp .eq 6, 3) := by decide +kernel
theorem dX3_read_12 : decode cX3_read 12 = .ok (.bipush (-3), 2) := by decide +kernel
theorem dX3_read_14 : decode cX3_read 14 = .ok (.ireturn, 1) := by decide +kernel
theorem dX3_read_15 : decode cX3_read 15 = .ok (.aload_n 0, 1) := by decide +kernel
theorem dX3_read_16 : decode cX3_read 16 = .ok (.getfield 29, 3) := by decide +kernel
theorem dX3_read_19 : decode cX3_read 19 = .ok (.aload_n 0, 1) := by decide +kernel
theorem dX3_read_20 : decode cX3_read 20 = .ok (.getfield 10, 3) := by decide +kernel
theorem dX3_read_23 : decode cX3_read 23 = .ok (.getfield 49, 3) := by decide +kernel
theorem dX3_read_26 : decode cX3_read 26 = .ok (.invokevirtual 52, 3) := by decide +kernel
theorem dX3_read_29 : decode cX3_read 29 = .ok (.aload_n 0, 1) := by decide +kernel
theorem dX3_read_30 : decode cX3_read 30 = .ok (.getfield 22, 3) := by decide +kernel
theorem dX3_read_33 : decode cX3_read 33 = .ok (.aload_n 0, 1) := by decide +kernel
theorem dX3_read_34 : decode cX3_read 34 = .ok (.getfield 10, 3) := by decide +kernel
theorem dX3_read_37 : decode cX3_read 37 = .ok (.invokevirtual 84, 3) := by decide +kernel
theorem dX3_read_40 : decode cX3_read 40 = .ok (.istore_n 1, 1) := by decide +kernel
theorem dX3_read_41 : decode cX3_read 41 = .ok (.aload_n 0, 1) := by decide +kernel
theorem dX3_read_42 : decode cX3_read 42 = .ok (.getfield 22, 3) := by decide +kernel
theorem dX3_read_45 : decode cX3_read 45 = .ok (.invokevirtual 88, 3) := by decide +kernel
theorem dX3_read_48 : decode cX3_read 48 = .ok (.iload_n 1, 1) := by decide +kernel
theorem dX3_read_49 : decode cX3_read 49 = .ok (.ireturn, 1) := by decide +kernel
set_option maxRecDepth 20000 in
theorem ggX3_correct_X1_keep : GoodIn wsX3_correct wsX1_keep := goodIn_r _ [8, 9, 10, 11, 12, 13, 14, 15, 16, 17, 18, 19, 20, 21, 22, 36, 37, 38] (by decide +kernel) (by decide +kernel)
set_option maxRecDepth 20000 in
theorem gX3_correct_X1_keep : GoodIn wsX3_correct (wsV RX3 52 RX1 yX1_keep wsX1_keep) := goodIn_app (goodIn_of _ (by decide +kernel)) ggX3_correct_X1_keep
set_option maxRecDepth 20000 in
theorem ggX3_correct_X0_becomeInside : GoodIn wsX3_correct wsX0_becomeInside := goodIn_r _ [27, 28, 35] (by decide +kernel) (by decide +kernel)
set_option maxRecDepth 20000 in
theorem gX3_correct_X0_becomeInside : GoodIn wsX3_correct (wsV RX3 91 RX0 yX0_becomeInside wsX0_becomeInside) := goodIn_app (goodIn_of _ (by decide +kernel)) ggX3_correct_X0_becomeInside
theorem dX3_correct_0 : decode cX3_correct 0 = .ok (.iload_n 1, 1) := by decide +kernel
theorem dX3_correct_1 : decode cX3_correct 1 = .ok (.ifCond .lt 10, 3) := by decide +kernel
theorem dX3_correct_4 : decode cX3_correct 4 = .ok (.iload_n 1, 1) := by decide +kernel
theorem dX3_correct_5 : decode cX3_correct 5 = .ok (.sipush 999, 3) := by decide +kernel
theorem dX3_correct_8 : decode cX3_correct 8 = .ok (.if_icmp .le 6, 3) := by decide +kernel
theorem dX3_correct_11 : decode cX3_correct 11 = .ok (.bipush (-2), 2) := by decide +kernel
theorem dX3_correct_13 : decode cX3_correct 13 = .ok (.ireturn, 1) := by decide +kernel
theorem dX3_correct_14 : decode cX3_correct 14 = .ok (.aload_n 0, 1) := by decide +kernel
theorem dX3_correct_15 : decode cX3_correct 15 = .ok (.getfield 29, 3) := by decide +kernel
theorem dX3_correct_18 : decode cX3_correct 18 = .ok (.aload_n 0, 1) := by decide +kernel
theorem dX3_correct_19 : decode cX3_correct 19 = .ok (.getfield 10, 3) := by decide +kernel
theorem dX3_correct_22 : decode cX3_correct 22 = .ok (.getfield 49, 3) := by decide +kernel
theorem dX3_correct_25 : decode cX3_correct 25 = .ok (.invokevirtual 52, 3) := by decide +kernel
theorem dX3_correct_28 : decode cX3_correct 28 = .ok (.aload_n 0, 1) := by decide +kernel
theorem dX3_correct_29 : decode cX3_correct 29 = .ok (.getfield 10, 3) := by decide +kernel
theorem dX3_correct_32 : decode cX3_correct 32 = .ok (.getfield 49, 3) := by decide +kernel
theorem dX3_correct_35 : decode cX3_correct 35 = .ok (.iconst 4, 1) := by decide +kernel
theorem dX3_correct_36 : decode cX3_correct 36 = .ok (.iaload, 1) := by decide +kernel
theorem dX3_correct_37 : decode cX3_correct 37 = .ok (.istore_n 2, 1) := by decide +kernel
theorem dX3_correct_38 : decode cX3_correct 38 = .ok (.aload_n 0, 1) := by decide +kernel
theorem dX3_correct_39 : decode cX3_correct 39 = .ok (.getfield 10, 3) := by decide +kernel
theorem dX3_correct_42 : decode cX3_correct 42 = .ok (.iload_n 1, 1) := by decide +kernel
theorem dX3_correct_43 : decode cX3_correct 43 = .ok (.invokevirtual 91, 3) := by decide +kernel
theorem dX3_correct_46 : decode cX3_correct 46 = .ok (.iload_n 2, 1) := by decide +kernel
theorem dX3_correct_47 : decode cX3_correct 47 = .ok (.ireturn, 1) := by decide +kernel
set_option maxRecDepth 20000 in
theorem ggX3_clear_X3_isNoGate : GoodIn wsX3_clear wsX3_isNoGate := goodIn_r _ [7] (by decide +kernel) (by decide +kernel)
set_option maxRecDepth 20000 in
theorem gX3_clear_X3_isNoGate : GoodIn wsX3_clear (va_wsS RX3 56 yX3_isNoGate wsX3_isNoGate) := goodIn_app (goodIn_of _ (by decide +kernel)) ggX3_clear_X3_isNoGate
set_option maxRecDepth 20000 in
theorem ggX3_clear_X0_isUnderWay : GoodIn wsX3_clear wsX0_isUnderWay := goodIn_r _ [12, 13, 14, 15, 11, 16, 65] (by decide +kernel) (by decide +kernel)
set_option maxRecDepth 20000 in
theorem gX3_clear_X0_isUnderWay : GoodIn wsX3_clear (wsV RX3 94 RX0 yX0_isUnderWay wsX0_isUnderWay) := goodIn_app (goodIn_of _ (by decide +kernel)) ggX3_clear_X0_isUnderWay
set_option maxRecDepth 20000 in
theorem ggX3_clear_X1_keep : GoodIn wsX3_clear wsX1_keep := goodIn_r _ [21, 22, 23, 24, 25, 26, 27, 28, 29, 6, 30, 31, 32, 33, 34, 66, 67, 68] (by decide +kernel) (by decide +kernel)
set_option maxRecDepth 20000 in
theorem gX3_clear_X1_keep : GoodIn wsX3_clear (wsV RX3 52 RX1 yX1_keep wsX1_keep) := goodIn_app (goodIn_of _ (by decide +kernel)) ggX3_clear_X1_keep
set_option maxRecDepth 20000 in
theorem ggX3_clear_X0_free : GoodIn wsX3_clear wsX0_free := goodIn_r _ [38, 13, 14, 15, 11, 16, 39, 40, 41, 42, 43, 44, 45, 46, 47, 48, 49, 50, 51, 52, 53, 54, 55, 56, 57, 58, 65] (by decide +kernel) (by decide +kernel)
set_option maxRecDepth 20000 in
theorem gX3_clear_X0_free : GoodIn wsX3_clear (wsV RX3 97 RX0 yX0_free wsX0_free) := goodIn_app (goodIn_of _ (by decide +kernel)) ggX3_clear_X0_free
theorem dX3_clear_0 : decode cX3_clear 0 = .ok (.iload_n 1, 1) := by decide +kernel
theorem dX3_clear_1 : decode cX3_clear 1 = .ok (.invokestatic 56, 3) := by decide +kernel
theorem dX3_clear_4 : decode cX3_clear 4 = .ok (.ifCond .eq 5, 3) := by decide +kernel
theorem dX3_clear_7 : decode cX3_clear 7 = .ok (.iconst (-1), 1) := by decide +kernel
theorem dX3_clear_8 : decode cX3_clear 8 = .ok (.ireturn, 1) := by decide +kernel
theorem dX3_clear_9 : decode cX3_clear 9 = .ok (.aload_n 0, 1) := by decide +kernel
theorem dX3_clear_10 : decode cX3_clear 10 = .ok (.getfield 10, 3) := by decide +kernel
theorem dX3_clear_13 : decode cX3_clear 13 = .ok (.iload_n 1, 1) := by decide +kernel
theorem dX3_clear_14 : decode cX3_clear 14 = .ok (.invokevirtual 94, 3) := by decide +kernel
theorem dX3_clear_17 : decode cX3_clear 17 = .ok (.ifCond .ne 6, 3) := by decide +kernel
theorem dX3_clear_20 : decode cX3_clear 20 = .ok (.bipush (-5), 2) := by decide +kernel
theorem dX3_clear_22 : decode cX3_clear 22 = .ok (.ireturn, 1) := by decide +kernel
theorem dX3_clear_23 : decode cX3_clear 23 = .ok (.aload_n 0, 1) := by decide +kernel
theorem dX3_clear_24 : decode cX3_clear 24 = .ok (.getfield 29, 3) := by decide +kernel
theorem dX3_clear_27 : decode cX3_clear 27 = .ok (.aload_n 0, 1) := by decide +kernel
theorem dX3_clear_28 : decode cX3_clear 28 = .ok (.getfield 10, 3) := by decide +kernel
theorem dX3_clear_31 : decode cX3_clear 31 = .ok (.getfield 49, 3) := by decide +kernel
theorem dX3_clear_34 : decode cX3_clear 34 = .ok (.invokevirtual 52, 3) := by decide +kernel
theorem dX3_clear_37 : decode cX3_clear 37 = .ok (.aload_n 0, 1) := by decide +kernel
theorem dX3_clear_38 : decode cX3_clear 38 = .ok (.getfield 10, 3) := by decide +kernel
theorem dX3_clear_41 : decode cX3_clear 41 = .ok (.iload_n 1, 1) := by decide +kernel
theorem dX3_clear_42 : decode cX3_clear 42 = .ok (.invokevirtual 97, 3) := by decide +kernel
theorem dX3_clear_45 : decode cX3_clear 45 = .ok (.ireturn, 1) := by decide +kernel
set_option maxRecDepth 20000 in
theorem ggX3_gate_X3_isNoGate : GoodIn wsX3_gate wsX3_isNoGate := goodIn_r _ [5] (by decide +kernel) (by decide +kernel)
set_option maxRecDepth 20000 in
theorem gX3_gate_X3_isNoGate : GoodIn wsX3_gate (va_wsS RX3 56 yX3_isNoGate wsX3_isNoGate) := goodIn_app (goodIn_of _ (by decide +kernel)) ggX3_gate_X3_isNoGate
set_option maxRecDepth 20000 in
theorem ggX3_gate_X0_tell : GoodIn wsX3_gate wsX0_tell := goodIn_r _ [10, 11, 12, 13, 14, 9, 15, 16, 17, 18, 19, 20, 21, 22, 23, 24, 25, 26, 27, 28, 29, 30, 31, 32, 33, 34, 41] (by decide +kernel) (by decide +kernel)
set_option maxRecDepth 20000 in
theorem gX3_gate_X0_tell : GoodIn wsX3_gate (wsV RX3 100 RX0 yX0_tell wsX0_tell) := goodIn_app (goodIn_of _ (by decide +kernel)) ggX3_gate_X0_tell
theorem dX3_gate_0 : decode cX3_gate 0 = .ok (.iload_n 1, 1) := by decide +kernel
theorem dX3_gate_1 : decode cX3_gate 1 = .ok (.invokestatic 56, 3) := by decide +kernel
theorem dX3_gate_4 : decode cX3_gate 4 = .ok (.ifCond .eq 5, 3) := by decide +kernel
theorem dX3_gate_7 : decode cX3_gate 7 = .ok (.iconst (-1), 1) := by decide +kernel
theorem dX3_gate_8 : decode cX3_gate 8 = .ok (.ireturn, 1) := by decide +kernel
theorem dX3_gate_9 : decode cX3_gate 9 = .ok (.iload_n 2, 1) := by decide +kernel
theorem dX3_gate_10 : decode cX3_gate 10 = .ok (.ifCond .lt 9, 3) := by decide +kernel
theorem dX3_gate_13 : decode cX3_gate 13 = .ok (.iload_n 2, 1) := by decide +kernel
theorem dX3_gate_14 : decode cX3_gate 14 = .ok (.bipush 13, 2) := by decide +kernel
theorem dX3_gate_16 : decode cX3_gate 16 = .ok (.if_icmp .lt 6, 3) := by decide +kernel
theorem dX3_gate_19 : decode cX3_gate 19 = .ok (.bipush (-2), 2) := by decide +kernel
theorem dX3_gate_21 : decode cX3_gate 21 = .ok (.ireturn, 1) := by decide +kernel
theorem dX3_gate_22 : decode cX3_gate 22 = .ok (.aload_n 0, 1) := by decide +kernel
theorem dX3_gate_23 : decode cX3_gate 23 = .ok (.getfield 10, 3) := by decide +kernel
theorem dX3_gate_26 : decode cX3_gate 26 = .ok (.iload_n 1, 1) := by decide +kernel
theorem dX3_gate_27 : decode cX3_gate 27 = .ok (.iload_n 2, 1) := by decide +kernel
theorem dX3_gate_28 : decode cX3_gate 28 = .ok (.invokevirtual 100, 3) := by decide +kernel
theorem dX3_gate_31 : decode cX3_gate 31 = .ok (.ireturn, 1) := by decide +kernel
set_option maxRecDepth 20000 in
theorem ggX3_count_X0_blockedMask : GoodIn wsX3_count wsX0_blockedMask := goodIn_r _ [11, 12, 13, 14, 10, 15, 16, 17, 18, 19, 20, 21, 22, 23, 24, 25, 26, 27, 42] (by decide +kernel) (by decide +kernel)
set_option maxRecDepth 20000 in
theorem gX3_count_X0_blockedMask : GoodIn wsX3_count (wsV RX3 71 RX0 yX0_blockedMask wsX0_blockedMask) := goodIn_app (goodIn_of _ (by decide +kernel)) ggX3_count_X0_blockedMask
set_option maxRecDepth 20000 in
theorem ggX3_count_X0_underWayMask : GoodIn wsX3_count wsX0_underWayMask := goodIn_r _ [31, 17, 18, 19, 10, 20, 16, 21, 22, 23, 42] (by decide +kernel) (by decide +kernel)
set_option maxRecDepth 20000 in
theorem gX3_count_X0_underWayMask : GoodIn wsX3_count (wsV RX3 103 RX0 yX0_underWayMask wsX0_underWayMask) := goodIn_app (goodIn_of _ (by decide +kernel)) ggX3_count_X0_underWayMask
set_option maxRecDepth 20000 in
theorem ggX3_count_X0_sumOfGates : GoodIn wsX3_count wsX0_sumOfGates := goodIn_r _ [35, 16, 21, 22, 10, 23, 42] (by decide +kernel) (by decide +kernel)
set_option maxRecDepth 20000 in
theorem gX3_count_X0_sumOfGates : GoodIn wsX3_count (wsV RX3 113 RX0 yX0_sumOfGates wsX0_sumOfGates) := goodIn_app (goodIn_of _ (by decide +kernel)) ggX3_count_X0_sumOfGates
theorem dX3_count_0 : decode cX3_count 0 = .ok (.iload_n 1, 1) := by decide +kernel
theorem dX3_count_1 : decode cX3_count 1 = .ok (.ifCond .lt 9, 3) := by decide +kernel
theorem dX3_count_4 : decode cX3_count 4 = .ok (.iload_n 1, 1) := by decide +kernel
theorem dX3_count_5 : decode cX3_count 5 = .ok (.bipush 18, 2) := by decide +kernel
theorem dX3_count_7 : decode cX3_count 7 = .ok (.if_icmp .lt 6, 3) := by decide +kernel
theorem dX3_count_10 : decode cX3_count 10 = .ok (.bipush (-2), 2) := by decide +kernel
theorem dX3_count_12 : decode cX3_count 12 = .ok (.ireturn, 1) := by decide +kernel
theorem dX3_count_13 : decode cX3_count 13 = .ok (.iload_n 1, 1) := by decide +kernel
theorem dX3_count_14 : decode cX3_count 14 = .ok (.bipush 8, 2) := by decide +kernel
theorem dX3_count_16 : decode cX3_count 16 = .ok (.if_icmp .ge 13, 3) := by decide +kernel
theorem dX3_count_19 : decode cX3_count 19 = .ok (.aload_n 0, 1) := by decide +kernel
theorem dX3_count_20 : decode cX3_count 20 = .ok (.getfield 10, 3) := by decide +kernel
theorem dX3_count_23 : decode cX3_count 23 = .ok (.getfield 49, 3) := by decide +kernel
theorem dX3_count_26 : decode cX3_count 26 = .ok (.iload_n 1, 1) := by decide +kernel
theorem dX3_count_27 : decode cX3_count 27 = .ok (.iaload, 1) := by decide +kernel
theorem dX3_count_28 : decode cX3_count 28 = .ok (.ireturn, 1) := by decide +kernel
theorem dX3_count_29 : decode cX3_count 29 = .ok (.iload_n 1, 1) := by decide +kernel
theorem dX3_count_30 : decode cX3_count 30 = .ok (.tableswitch 62 14 17 #[30, 38, 46, 54], 30) := by decide +kernel
theorem dX3_count_60 : decode cX3_count 60 = .ok (.aload_n 0, 1) := by decide +kernel
theorem dX3_count_61 : decode cX3_count 61 = .ok (.getfield 10, 3) := by decide +kernel
theorem dX3_count_64 : decode cX3_count 64 = .ok (.invokevirtual 71, 3) := by decide +kernel
theorem dX3_count_67 : decode cX3_count 67 = .ok (.ireturn, 1) := by decide +kernel
theorem dX3_count_68 : decode cX3_count 68 = .ok (.aload_n 0, 1) := by decide +kernel
theorem dX3_count_69 : decode cX3_count 69 = .ok (.getfield 10, 3) := by decide +kernel
theorem dX3_count_72 : decode cX3_count 72 = .ok (.invokevirtual 103, 3) := by decide +kernel
theorem dX3_count_75 : decode cX3_count 75 = .ok (.ireturn, 1) := by decide +kernel
theorem dX3_count_76 : decode cX3_count 76 = .ok (.aload_n 0, 1) := by decide +kernel
theorem dX3_count_77 : decode cX3_count 77 = .ok (.getfield 22, 3) := by decide +kernel
theorem dX3_count_80 : decode cX3_count 80 = .ok (.getfield 106, 3) := by decide +kernel
theorem dX3_count_83 : decode cX3_count 83 = .ok (.ireturn, 1) := by decide +kernel
theorem dX3_count_84 : decode cX3_count 84 = .ok (.aload_n 0, 1) := by decide +kernel
theorem dX3_count_85 : decode cX3_count 85 = .ok (.getfield 29, 3) := by decide +kernel
theorem dX3_count_88 : decode cX3_count 88 = .ok (.getfield 110, 3) := by decide +kernel
theorem dX3_count_91 : decode cX3_count 91 = .ok (.ireturn, 1) := by decide +kernel
theorem dX3_count_92 : decode cX3_count 92 = .ok (.aload_n 0, 1) := by decide +kernel
theorem dX3_count_93 : decode cX3_count 93 = .ok (.getfield 10, 3) := by decide +kernel
theorem dX3_count_96 : decode cX3_count 96 = .ok (.iload_n 1, 1) := by decide +kernel
theorem dX3_count_97 : decode cX3_count 97 = .ok (.bipush 8, 2) := by decide +kernel
theorem dX3_count_99 : decode cX3_count 99 = .ok (.isub, 1) := by decide +kernel
theorem dX3_count_100 : decode cX3_count 100 = .ok (.iconst 5, 1) := by decide +kernel
theorem dX3_count_101 : decode cX3_count 101 = .ok (.iadd, 1) := by decide +kernel
theorem dX3_count_102 : decode cX3_count 102 = .ok (.invokevirtual 113, 3) := by decide +kernel
theorem dX3_count_105 : decode cX3_count 105 = .ok (.ireturn, 1) := by decide +kernel
set_option maxRecDepth 20000 in
theorem ggX3_mean_X3_isNoGate : GoodIn wsX3_mean wsX3_isNoGate := goodIn_r _ [5] (by decide +kernel) (by decide +kernel)
set_option maxRecDepth 20000 in
theorem gX3_mean_X3_isNoGate : GoodIn wsX3_mean (va_wsS RX3 56 yX3_isNoGate wsX3_isNoGate) := goodIn_app (goodIn_of _ (by decide +kernel)) ggX3_mean_X3_isNoGate
set_option maxRecDepth 20000 in
theorem ggX3_mean_X0_passagesThrough : GoodIn wsX3_mean wsX0_passagesThrough := goodIn_r _ [10, 11, 12, 13, 9, 14, 45] (by decide +kernel) (by decide +kernel)
set_option maxRecDepth 20000 in
theorem gX3_mean_X0_passagesThrough : GoodIn wsX3_mean (wsV RX3 116 RX0 yX0_passagesThrough wsX0_passagesThrough) := goodIn_app (goodIn_of _ (by decide +kernel)) ggX3_mean_X0_passagesThrough
set_option maxRecDepth 20000 in
theorem ggX3_mean_X0_tell : GoodIn wsX3_mean wsX0_tell := goodIn_r _ [18, 11, 19, 20, 21, 9, 22, 12, 13, 14, 23, 24, 25, 26, 27, 28, 29, 30, 31, 32, 33, 34, 35, 36, 37, 38, 45] (by decide +kernel) (by decide +kernel)
set_option maxRecDepth 20000 in
theorem gX3_mean_X0_tell : GoodIn wsX3_mean (wsV RX3 100 RX0 yX0_tell wsX0_tell) := goodIn_app (goodIn_of _ (by decide +kernel)) ggX3_mean_X0_tell
theorem dX3_mean_0 : decode cX3_mean 0 = .ok (.iload_n 1, 1) := by decide +kernel
theorem dX3_mean_1 : decode cX3_mean 1 = .ok (.invokestatic 56, 3) := by decide +kernel
theorem dX3_mean_4 : decode cX3_mean 4 = .ok (.ifCond .eq 5, 3) := by decide +kernel
theorem dX3_mean_7 : decode cX3_mean 7 = .ok (.iconst (-1), 1) := by decide +kernel
theorem dX3_mean_8 : decode cX3_mean 8 = .ok (.ireturn, 1) := by decide +kernel
theorem dX3_mean_9 : decode cX3_mean 9 = .ok (.aload_n 0, 1) := by decide +kernel
theorem dX3_mean_10 : decode cX3_mean 10 = .ok (.getfield 10, 3) := by decide +kernel
theorem dX3_mean_13 : decode cX3_mean 13 = .ok (.iload_n 1, 1) := by decide +kernel
theorem dX3_mean_14 : decode cX3_mean 14 = .ok (.invokevirtual 116, 3) := by decide +kernel
theorem dX3_mean_17 : decode cX3_mean 17 = .ok (.istore_n 2, 1) := by decide +kernel
theorem dX3_mean_18 : decode cX3_mean 18 = .ok (.iload_n 2, 1) := by decide +kernel
theorem dX3_mean_19 : decode cX3_mean 19 = .ok (.ifCond .gt 6, 3) := by decide +kernel
theorem dX3_mean_22 : decode cX3_mean 22 = .ok (.bipush (-6), 2) := by decide +kernel
theorem dX3_mean_24 : decode cX3_mean 24 = .ok (.ireturn, 1) := by decide +kernel
theorem dX3_mean_25 : decode cX3_mean 25 = .ok (.aload_n 0, 1) := by decide +kernel
theorem dX3_mean_26 : decode cX3_mean 26 = .ok (.getfield 10, 3) := by decide +kernel
theorem dX3_mean_29 : decode cX3_mean 29 = .ok (.iload_n 1, 1) := by decide +kernel
theorem dX3_mean_30 : decode cX3_mean 30 = .ok (.bipush 11, 2) := by decide +kernel
theorem dX3_mean_32 : decode cX3_mean 32 = .ok (.invokevirtual 100, 3) := by decide +kernel
theorem dX3_mean_35 : decode cX3_mean 35 = .ok (.iload_n 2, 1) := by decide +kernel
theorem dX3_mean_36 : decode cX3_mean 36 = .ok (.idiv, 1) := by decide +kernel
theorem dX3_mean_37 : decode cX3_mean 37 = .ok (.ireturn, 1) := by decide +kernel
set_option maxRecDepth 20000 in
theorem ggX3_busiest_X0_passagesThrough : GoodIn wsX3_busiest wsX0_passagesThrough := goodIn_r _ [6, 7, 8, 9, 5, 10, 17] (by decide +kernel) (by decide +kernel)
set_option maxRecDepth 20000 in
theorem gX3_busiest_X0_passagesThrough : GoodIn wsX3_busiest (wsV RX3 116 RX0 yX0_passagesThrough wsX0_passagesThrough) := goodIn_app (goodIn_of _ (by decide +kernel)) ggX3_busiest_X0_passagesThrough
theorem dX3_busiest_0 : decode cX3_busiest 0 = .ok (.bipush (-6), 2) := by decide +kernel
theorem dX3_busiest_2 : decode cX3_busiest 2 = .ok (.istore_n 1, 1) := by decide +kernel
theorem dX3_busiest_3 : decode cX3_busiest 3 = .ok (.iconst 0, 1) := by decide +kernel
theorem dX3_busiest_4 : decode cX3_busiest 4 = .ok (.istore_n 2, 1) := by decide +kernel
theorem dX3_busiest_5 : decode cX3_busiest 5 = .ok (.iconst 0, 1) := by decide +kernel
theorem dX3_busiest_6 : decode cX3_busiest 6 = .ok (.istore_n 3, 1) := by decide +kernel
theorem dX3_busiest_7 : decode cX3_busiest 7 = .ok (.iload_n 3, 1) := by decide +kernel
theorem dX3_busiest_8 : decode cX3_busiest 8 = .ok (.bipush 6, 2) := by decide +kernel
theorem dX3_busiest_10 : decode cX3_busiest 10 = .ok (.if_icmp .ge 30, 3) := by decide +kernel
theorem dX3_busiest_13 : decode cX3_busiest 13 = .ok (.aload_n 0, 1) := by decide +kernel
theorem dX3_busiest_14 : decode cX3_busiest 14 = .ok (.getfield 10, 3) := by decide +kernel
theorem dX3_busiest_17 : decode cX3_busiest 17 = .ok (.iload_n 3, 1) := by decide +kernel
theorem dX3_busiest_18 : decode cX3_busiest 18 = .ok (.invokevirtual 116, 3) := by decide +kernel
theorem dX3_busiest_21 : decode cX3_busiest 21 = .ok (.istore 4, 2) := by decide +kernel
theorem dX3_busiest_23 : decode cX3_busiest 23 = .ok (.iload 4, 2) := by decide +kernel
theorem dX3_busiest_25 : decode cX3_busiest 25 = .ok (.iload_n 2, 1) := by decide +kernel
theorem dX3_busiest_26 : decode cX3_busiest 26 = .ok (.if_icmp .le 8, 3) := by decide +kernel
theorem dX3_busiest_29 : decode cX3_busiest 29 = .ok (.iload 4, 2) := by decide +kernel
theorem dX3_busiest_31 : decode cX3_busiest 31 = .ok (.istore_n 2, 1) := by decide +kernel
theorem dX3_busiest_32 : decode cX3_busiest 32 = .ok (.iload_n 3, 1) := by decide +kernel
theorem dX3_busiest_33 : decode cX3_busiest 33 = .ok (.istore_n 1, 1) := by decide +kernel
theorem dX3_busiest_34 : decode cX3_busiest 34 = .ok (.iinc 3 1, 3) := by decide +kernel
theorem dX3_busiest_37 : decode cX3_busiest 37 = .ok (.goto (-30), 3) := by decide +kernel
theorem dX3_busiest_40 : decode cX3_busiest 40 = .ok (.iload_n 1, 1) := by decide +kernel
theorem dX3_busiest_41 : decode cX3_busiest 41 = .ok (.ireturn, 1) := by decide +kernel
set_option maxRecDepth 20000 in
theorem ggX3_ifRead_X2_firstFault : GoodIn wsX3_ifRead wsX2_firstFault := goodIn_r _ [9, 10, 11, 12, 13, 8, 14, 15, 16, 17, 18, 19, 20, 21, 22, 23, 24, 25, 26, 106, 107] (by decide +kernel) (by decide +kernel)
set_option maxRecDepth 20000 in
theorem gX3_ifRead_X2_firstFault : GoodIn wsX3_ifRead (wsV RX3 81 RX2 yX2_firstFault wsX2_firstFault) := goodIn_app (goodIn_of _ (by decide +kernel)) ggX3_ifRead_X2_firstFault
set_option maxRecDepth 20000 in
theorem ggX3_ifRead_X3_copyRow : GoodIn wsX3_ifRead wsX3_copyRow := goodIn_r _ [30, 31, 32, 33, 34] (by decide +kernel) (by decide +kernel)
set_option maxRecDepth 20000 in
theorem gX3_ifRead_X3_copyRow : GoodIn wsX3_ifRead (va_wsS RX3 119 yX3_copyRow wsX3_copyRow) := goodIn_app (goodIn_of _ (by decide +kernel)) ggX3_ifRead_X3_copyRow
set_option maxRecDepth 20000 in
theorem ggX3_ifRead_X2_happenIn : GoodIn wsX3_ifRead wsX2_happenIn := goodIn_r _ [38, 10, 11, 39, 40, 41, 8, 42, 43, 44, 45, 46, 47, 48, 49, 50, 51, 52, 53, 54, 55, 56, 57, 58, 59, 60, 61, 29, 62, 18, 19, 20, 63, 64, 65, 66, 67, 68, 69, 70, 71, 72, 73, 74, 75, 76, 77, 78, 79, 80, 81, 82, 83, 84, 85, 86, 87, 88, 89, 90, 91, 92, 93, 94, 106, 107, 105] (by decide +kernel) (by decide +kernel)
set_option maxRecDepth 20000 in
theorem gX3_ifRead_X2_happenIn : GoodIn wsX3_ifRead (wsV RX3 84 RX2 yX2_happenIn wsX2_happenIn) := goodIn_app (goodIn_of _ (by decide +kernel)) ggX3_ifRead_X2_happenIn
set_option maxRecDepth 20000 in
theorem ggX3_ifRead_X0_sumOfGates : GoodIn wsX3_ifRead wsX0_sumOfGates := goodIn_r _ [98, 51, 68, 69, 49, 70, 105] (by decide +kernel) (by decide +kernel)
set_option maxRecDepth 20000 in
theorem gX3_ifRead_X0_sumOfGates : GoodIn wsX3_ifRead (wsV RX3 113 RX0 yX0_sumOfGates wsX0_sumOfGates) := goodIn_app (goodIn_of _ (by decide +kernel)) ggX3_ifRead_X0_sumOfGates
theorem dX3_ifRead_0 : decode cX3_ifRead 0 = .ok (.aload_n 0, 1) := by decide +kernel
theorem dX3_ifRead_1 : decode cX3_ifRead 1 = .ok (.getfield 22, 3) := by decide +kernel
theorem dX3_ifRead_4 : decode cX3_ifRead 4 = .ok (.invokevirtual 81, 3) := by decide +kernel
theorem dX3_ifRead_7 : decode cX3_ifRead 7 = .ok (.bipush (-6), 2) := by decide +kernel
theorem dX3_ifRead_9 : decode cX3_ifRead 9 = .ok (.if_icmp .eq 6, 3) := by decide +kernel
theorem dX3_ifRead_12 : decode cX3_ifRead 12 = .ok (.bipush (-3), 2) := by decide +kernel
theorem dX3_ifRead_14 : decode cX3_ifRead 14 = .ok (.ireturn, 1) := by decide +kernel
theorem dX3_ifRead_15 : decode cX3_ifRead 15 = .ok (.iload_n 1, 1) := by decide +kernel
theorem dX3_ifRead_16 : decode cX3_ifRead 16 = .ok (.ifCond .lt 9, 3) := by decide +kernel
theorem dX3_ifRead_19 : decode cX3_ifRead 19 = .ok (.iload_n 1, 1) := by decide +kernel
theorem dX3_ifRead_20 : decode cX3_ifRead 20 = .ok (.bipush 6, 2) := by decide +kernel
theorem dX3_ifRead_22 : decode cX3_ifRead 22 = .ok (.if_icmp .lt 6, 3) := by decide +kernel
theorem dX3_ifRead_25 : decode cX3_ifRead 25 = .ok (.bipush (-2), 2) := by decide +kernel
theorem dX3_ifRead_27 : decode cX3_ifRead 27 = .ok (.ireturn, 1) := by decide +kernel
theorem dX3_ifRead_28 : decode cX3_ifRead 28 = .ok (.aload_n 0, 1) := by decide +kernel
theorem dX3_ifRead_29 : decode cX3_ifRead 29 = .ok (.getfield 10, 3) := by decide +kernel
theorem dX3_ifRead_32 : decode cX3_ifRead 32 = .ok (.getfield 49, 3) := by decide +kernel
theorem dX3_ifRead_35 : decode cX3_ifRead 35 = .ok (.aload_n 0, 1) := by decide +kernel
theorem dX3_ifRead_36 : decode cX3_ifRead 36 = .ok (.getfield 16, 3) := by decide +kernel
theorem dX3_ifRead_39 : decode cX3_ifRead 39 = .ok (.getfield 49, 3) := by decide +kernel
theorem dX3_ifRead_42 : decode cX3_ifRead 42 = .ok (.invokestatic 119, 3) := by decide +kernel
theorem dX3_ifRead_45 : decode cX3_ifRead 45 = .ok (.aload_n 0, 1) := by decide +kernel
theorem dX3_ifRead_46 : decode cX3_ifRead 46 = .ok (.getfield 22, 3) := by decide +kernel
theorem dX3_ifRead_49 : decode cX3_ifRead 49 = .ok (.aload_n 0, 1) := by decide +kernel
theorem dX3_ifRead_50 : decode cX3_ifRead 50 = .ok (.getfield 16, 3) := by decide +kernel
theorem dX3_ifRead_53 : decode cX3_ifRead 53 = .ok (.invokevirtual 84, 3) := by decide +kernel
theorem dX3_ifRead_56 : decode cX3_ifRead 56 = .ok (.pop, 1) := by decide +kernel
theorem dX3_ifRead_57 : decode cX3_ifRead 57 = .ok (.iload_n 1, 1) := by decide +kernel
theorem dX3_ifRead_58 : decode cX3_ifRead 58 = .ok (.lookupswitch 58 #[(4, 26), (5, 36)], 26) := by decide +kernel
theorem dX3_ifRead_84 : decode cX3_ifRead 84 = .ok (.aload_n 0, 1) := by decide +kernel
theorem dX3_ifRead_85 : decode cX3_ifRead 85 = .ok (.getfield 16, 3) := by decide +kernel
theorem dX3_ifRead_88 : decode cX3_ifRead 88 = .ok (.getfield 49, 3) := by decide +kernel
theorem dX3_ifRead_91 : decode cX3_ifRead 91 = .ok (.iconst 4, 1) := by decide +kernel
theorem dX3_ifRead_92 : decode cX3_ifRead 92 = .ok (.iaload, 1) := by decide +kernel
theorem dX3_ifRead_93 : decode cX3_ifRead 93 = .ok (.ireturn, 1) := by decide +kernel
theorem dX3_ifRead_94 : decode cX3_ifRead 94 = .ok (.aload_n 0, 1) := by decide +kernel
theorem dX3_ifRead_95 : decode cX3_ifRead 95 = .ok (.getfield 16, 3) := by decide +kernel
theorem dX3_ifRead_98 : decode cX3_ifRead 98 = .ok (.getfield 49, 3) := by decide +kernel
theorem dX3_ifRead_101 : decode cX3_ifRead 101 = .ok (.bipush 6, 2) := by decide +kernel
theorem dX3_ifRead_103 : decode cX3_ifRead 103 = .ok (.iaload, 1) := by decide +kernel
theorem dX3_ifRead_104 : decode cX3_ifRead 104 = .ok (.aload_n 0, 1) := by decide +kernel
theorem dX3_ifRead_105 : decode cX3_ifRead 105 = .ok (.getfield 10, 3) := by decide +kernel
theorem dX3_ifRead_108 : decode cX3_ifRead 108 = .ok (.getfield 49, 3) := by decide +kernel
theorem dX3_ifRead_111 : decode cX3_ifRead 111 = .ok (.bipush 6, 2) := by decide +kernel
theorem dX3_ifRead_113 : decode cX3_ifRead 113 = .ok (.iaload, 1) := by decide +kernel
theorem dX3_ifRead_114 : decode cX3_ifRead 114 = .ok (.isub, 1) := by decide +kernel
theorem dX3_ifRead_115 : decode cX3_ifRead 115 = .ok (.ireturn, 1) := by decide +kernel
theorem dX3_ifRead_116 : decode cX3_ifRead 116 = .ok (.aload_n 0, 1) := by decide +kernel
theorem dX3_ifRead_117 : decode cX3_ifRead 117 = .ok (.getfield 16, 3) := by decide +kernel
theorem dX3_ifRead_120 : decode cX3_ifRead 120 = .ok (.iconst 5, 1) := by decide +kernel
theorem dX3_ifRead_121 : decode cX3_ifRead 121 = .ok (.iload_n 1, 1) := by decide +kernel
theorem dX3_ifRead_122 : decode cX3_ifRead 122 = .ok (.iadd, 1) := by decide +kernel
theorem dX3_ifRead_123 : decode cX3_ifRead 123 = .ok (.invokevirtual 113, 3) := by decide +kernel
theorem dX3_ifRead_126 : decode cX3_ifRead 126 = .ok (.aload_n 0, 1) := by decide +kernel
theorem dX3_ifRead_127 : decode cX3_ifRead 127 = .ok (.getfield 10, 3) := by decide +kernel
theorem dX3_ifRead_130 : decode cX3_ifRead 130 = .ok (.iconst 5, 1) := by decide +kernel
theorem dX3_ifRead_131 : decode cX3_ifRead 131 = .ok (.iload_n 1, 1) := by decide +kernel
theorem dX3_ifRead_132 : decode cX3_ifRead 132 = .ok (.iadd, 1) := by decide +kernel
theorem dX3_ifRead_133 : decode cX3_ifRead 133 = .ok (.invokevirtual 113, 3) := by decide +kernel
theorem dX3_ifRead_136 : decode cX3_ifRead 136 = .ok (.isub, 1) := by decide +kernel
theorem dX3_ifRead_137 : decode cX3_ifRead 137 = .ok (.ireturn, 1) := by decide +kernel
set_option maxRecDepth 20000 in
theorem ggX3_eventsTo_X3_isNoGate : GoodIn wsX3_eventsTo wsX3_isNoGate := goodIn_r _ [9] (by decide +kernel) (by decide +kernel)
set_option maxRecDepth 20000 in
theorem gX3_eventsTo_X3_isNoGate : GoodIn wsX3_eventsTo (va_wsS RX3 56 yX3_isNoGate wsX3_isNoGate) := goodIn_app (goodIn_of _ (by decide +kernel)) ggX3_eventsTo_X3_isNoGate
set_option maxRecDepth 20000 in
theorem ggX3_eventsTo_X0_isUnderWay : GoodIn wsX3_eventsTo wsX0_isUnderWay := goodIn_r _ [14, 15, 16, 17, 13, 18, 33] (by decide +kernel) (by decide +kernel)
set_option maxRecDepth 20000 in
theorem gX3_eventsTo_X0_isUnderWay : GoodIn wsX3_eventsTo (wsV RX3 94 RX0 yX0_isUnderWay wsX0_isUnderWay) := goodIn_app (goodIn_of _ (by decide +kernel)) ggX3_eventsTo_X0_isUnderWay
set_option maxRecDepth 20000 in
theorem ggX3_eventsTo_X0_isSure : GoodIn wsX3_eventsTo wsX0_isSure := goodIn_r _ [22, 15, 16, 17, 13, 18, 33] (by decide +kernel) (by decide +kernel)
set_option maxRecDepth 20000 in
theorem gX3_eventsTo_X0_isSure : GoodIn wsX3_eventsTo (wsV RX3 123 RX0 yX0_isSure wsX0_isSure) := goodIn_app (goodIn_of _ (by decide +kernel)) ggX3_eventsTo_X0_isSure
set_option maxRecDepth 20000 in
theorem ggX3_eventsTo_X0_placeOf : GoodIn wsX3_eventsTo wsX0_placeOf := goodIn_r _ [26, 15, 16, 17, 13, 18, 33] (by decide +kernel) (by decide +kernel)
set_option maxRecDepth 20000 in
theorem gX3_eventsTo_X0_placeOf : GoodIn wsX3_eventsTo (wsV RX3 126 RX0 yX0_placeOf wsX0_placeOf) := goodIn_app (goodIn_of _ (by decide +kernel)) ggX3_eventsTo_X0_placeOf
theorem dX3_eventsTo_0 : decode cX3_eventsTo 0 = .ok (.iload_n 1, 1) := by decide +kernel
theorem dX3_eventsTo_1 : decode cX3_eventsTo 1 = .ok (.invokestatic 56, 3) := by decide +kernel
theorem dX3_eventsTo_4 : decode cX3_eventsTo 4 = .ok (.ifCond .eq 5, 3) := by decide +kernel
theorem dX3_eventsTo_7 : decode cX3_eventsTo 7 = .ok (.iconst (-1), 1) := by decide +kernel
theorem dX3_eventsTo_8 : decode cX3_eventsTo 8 = .ok (.ireturn, 1) := by decide +kernel
theorem dX3_eventsTo_9 : decode cX3_eventsTo 9 = .ok (.iload_n 2, 1) := by decide +kernel
theorem dX3_eventsTo_10 : decode cX3_eventsTo 10 = .ok (.ifCond .lt 8, 3) := by decide +kernel
theorem dX3_eventsTo_13 : decode cX3_eventsTo 13 = .ok (.iload_n 2, 1) := by decide +kernel
theorem dX3_eventsTo_14 : decode cX3_eventsTo 14 = .ok (.iconst 3, 1) := by decide +kernel
theorem dX3_eventsTo_15 : decode cX3_eventsTo 15 = .ok (.if_icmp .lt 6, 3) := by decide +kernel
theorem dX3_eventsTo_18 : decode cX3_eventsTo 18 = .ok (.bipush (-2), 2) := by decide +kernel
theorem dX3_eventsTo_20 : decode cX3_eventsTo 20 = .ok (.ireturn, 1) := by decide +kernel
theorem dX3_eventsTo_21 : decode cX3_eventsTo 21 = .ok (.aload_n 0, 1) := by decide +kernel
theorem dX3_eventsTo_22 : decode cX3_eventsTo 22 = .ok (.getfield 10, 3) := by decide +kernel
theorem dX3_eventsTo_25 : decode cX3_eventsTo 25 = .ok (.iload_n 1, 1) := by decide +kernel
theorem dX3_eventsTo_26 : decode cX3_eventsTo 26 = .ok (.invokevirtual 94, 3) := by decide +kernel
theorem dX3_eventsTo_29 : decode cX3_eventsTo 29 = .ok (.ifCond .eq 14, 3) := by decide +kernel
theorem dX3_eventsTo_32 : decode cX3_eventsTo 32 = .ok (.aload_n 0, 1) := by decide +kernel
theorem dX3_eventsTo_33 : decode cX3_eventsTo 33 = .ok (.getfield 10, 3) := by decide +kernel
theorem dX3_eventsTo_36 : decode cX3_eventsTo 36 = .ok (.iload_n 1, 1) := by decide +kernel
theorem dX3_eventsTo_37 : decode cX3_eventsTo 37 = .ok (.invokevirtual 123, 3) := by decide +kernel
theorem dX3_eventsTo_40 : decode cX3_eventsTo 40 = .ok (.ifCond .ne 6, 3) := by decide +kernel
theorem dX3_eventsTo_43 : decode cX3_eventsTo 43 = .ok (.bipush (-5), 2) := by decide +kernel
theorem dX3_eventsTo_45 : decode cX3_eventsTo 45 = .ok (.ireturn, 1) := by decide +kernel
theorem dX3_eventsTo_46 : decode cX3_eventsTo 46 = .ok (.aload_n 0, 1) := by decide +kernel
theorem dX3_eventsTo_47 : decode cX3_eventsTo 47 = .ok (.getfield 10, 3) := by decide +kernel
theorem dX3_eventsTo_50 : decode cX3_eventsTo 50 = .ok (.iload_n 1, 1) := by decide +kernel
theorem dX3_eventsTo_51 : decode cX3_eventsTo 51 = .ok (.invokevirtual 126, 3) := by decide +kernel
theorem dX3_eventsTo_54 : decode cX3_eventsTo 54 = .ok (.istore_n 3, 1) := by decide +kernel
theorem dX3_eventsTo_55 : decode cX3_eventsTo 55 = .ok (.iload_n 3, 1) := by decide +kernel
theorem dX3_eventsTo_56 : decode cX3_eventsTo 56 = .ok (.invokestatic 129, 3) := by decide +kernel
theorem dX3_eventsTo_59 : decode cX3_eventsTo 59 = .ok (.istore 4, 2) := by decide +kernel
theorem dX3_eventsTo_61 : decode cX3_eventsTo 61 = .ok (.iload_n 2, 1) := by decide +kernel
theorem dX3_eventsTo_62 : decode cX3_eventsTo 62 = .ok (.iconst 2, 1) := by decide +kernel
theorem dX3_eventsTo_63 : decode cX3_eventsTo 63 = .ok (.if_icmp .ne 6, 3) := by decide +kernel
theorem dX3_eventsTo_66 : decode cX3_eventsTo 66 = .ok (.iload 4, 2) := by decide +kernel
theorem dX3_eventsTo_68 : decode cX3_eventsTo 68 = .ok (.ireturn, 1) := by decide +kernel
theorem dX3_eventsTo_69 : decode cX3_eventsTo 69 = .ok (.iload_n 2, 1) := by decide +kernel
theorem dX3_eventsTo_70 : decode cX3_eventsTo 70 = .ok (.ifCond .ne 7, 3) := by decide +kernel
theorem dX3_eventsTo_73 : decode cX3_eventsTo 73 = .ok (.iconst 1, 1) := by decide +kernel
theorem dX3_eventsTo_74 : decode cX3_eventsTo 74 = .ok (.goto 4, 3) := by decide +kernel
theorem dX3_eventsTo_77 : decode cX3_eventsTo 77 = .ok (.iconst 0, 1) := by decide +kernel
theorem dX3_eventsTo_78 : decode cX3_eventsTo 78 = .ok (.iload_n 3, 1) := by decide +kernel
theorem dX3_eventsTo_79 : decode cX3_eventsTo 79 = .ok (.ifCond .le 7, 3) := by decide +kernel
theorem dX3_eventsTo_82 : decode cX3_eventsTo 82 = .ok (.iconst 1, 1) := by decide +kernel
theorem dX3_eventsTo_83 : decode cX3_eventsTo 83 = .ok (.goto 4, 3) := by decide +kernel
theorem dX3_eventsTo_86 : decode cX3_eventsTo 86 = .ok (.iconst 0, 1) := by decide +kernel
theorem dX3_eventsTo_87 : decode cX3_eventsTo 87 = .ok (.if_icmp .ne 7, 3) := by decide +kernel
theorem dX3_eventsTo_90 : decode cX3_eventsTo 90 = .ok (.iconst 1, 1) := by decide +kernel
theorem dX3_eventsTo_91 : decode cX3_eventsTo 91 = .ok (.goto 4, 3) := by decide +kernel
theorem dX3_eventsTo_94 : decode cX3_eventsTo 94 = .ok (.iconst 0, 1) := by decide +kernel
theorem dX3_eventsTo_95 : decode cX3_eventsTo 95 = .ok (.istore 5, 2) := by decide +kernel
theorem dX3_eventsTo_97 : decode cX3_eventsTo 97 = .ok (.iload 5, 2) := by decide +kernel
theorem dX3_eventsTo_99 : decode cX3_eventsTo 99 = .ok (.ifCond .eq 10, 3) := by decide +kernel
theorem dX3_eventsTo_102 : decode cX3_eventsTo 102 = .ok (.iconst 4, 1) := by decide +kernel
theorem dX3_eventsTo_103 : decode cX3_eventsTo 103 = .ok (.iload 4, 2) := by decide +kernel
theorem dX3_eventsTo_105 : decode cX3_eventsTo 105 = .ok (.isub, 1) := by decide +kernel
theorem dX3_eventsTo_106 : decode cX3_eventsTo 106 = .ok (.goto 5, 3) := by decide +kernel
theorem dX3_eventsTo_109 : decode cX3_eventsTo 109 = .ok (.bipush (-6), 2) := by decide +kernel
theorem dX3_eventsTo_111 : decode cX3_eventsTo 111 = .ok (.ireturn, 1) := by decide +kernel
set_option maxRecDepth 20000 in
theorem ggX3_untilBlocked_X0_isUnderWay : GoodIn wsX3_untilBlocked wsX0_isUnderWay := goodIn_r _ [7, 8, 9, 10, 6, 11, 28] (by decide +kernel) (by decide +kernel)
set_option maxRecDepth 20000 in
theorem gX3_untilBlocked_X0_isUnderWay : GoodIn wsX3_untilBlocked (wsV RX3 94 RX0 yX0_isUnderWay wsX0_isUnderWay) := goodIn_app (goodIn_of _ (by decide +kernel)) ggX3_untilBlocked_X0_isUnderWay
set_option maxRecDepth 20000 in
theorem ggX3_untilBlocked_X0_isBlocked : GoodIn wsX3_untilBlocked wsX0_isBlocked := goodIn_r _ [15, 8, 16, 4, 5, 6, 7, 9, 10, 11, 17, 18, 19, 20, 28] (by decide +kernel) (by decide +kernel)
set_option maxRecDepth 20000 in
theorem gX3_untilBlocked_X0_isBlocked : GoodIn wsX3_untilBlocked (wsV RX3 134 RX0 yX0_isBlocked wsX0_isBlocked) := goodIn_app (goodIn_of _ (by decide +kernel)) ggX3_untilBlocked_X0_isBlocked
set_option maxRecDepth 20000 in
theorem ggX3_untilBlocked_X0_ticksUnderWay : GoodIn wsX3_untilBlocked wsX0_ticksUnderWay := goodIn_r _ [20, 8, 9, 10, 6, 11, 28] (by decide +kernel) (by decide +kernel)
set_option maxRecDepth 20000 in
theorem gX3_untilBlocked_X0_ticksUnderWay : GoodIn wsX3_untilBlocked (wsV RX3 137 RX0 yX0_ticksUnderWay wsX0_ticksUnderWay) := goodIn_app (goodIn_of _ (by decide +kernel)) ggX3_untilBlocked_X0_ticksUnderWay
theorem dX3_untilBlocked_0 : decode cX3_untilBlocked 0 = .ok (.bipush (-6), 2) := by decide +kernel
theorem dX3_untilBlocked_2 : decode cX3_untilBlocked 2 = .ok (.istore_n 1, 1) := by decide +kernel
theorem dX3_untilBlocked_3 : decode cX3_untilBlocked 3 = .ok (.iconst 0, 1) := by decide +kernel
theorem dX3_untilBlocked_4 : decode cX3_untilBlocked 4 = .ok (.istore_n 2, 1) := by decide +kernel
theorem dX3_untilBlocked_5 : decode cX3_untilBlocked 5 = .ok (.iload_n 2, 1) := by decide +kernel
theorem dX3_untilBlocked_6 : decode cX3_untilBlocked 6 = .ok (.bipush 6, 2) := by decide +kernel
theorem dX3_untilBlocked_8 : decode cX3_untilBlocked 8 = .ok (.if_icmp .ge 63, 3) := by decide +kernel
theorem dX3_untilBlocked_11 : decode cX3_untilBlocked 11 = .ok (.aload_n 0, 1) := by decide +kernel
theorem dX3_untilBlocked_12 : decode cX3_untilBlocked 12 = .ok (.getfield 10, 3) := by decide +kernel
theorem dX3_untilBlocked_15 : decode cX3_untilBlocked 15 = .ok (.iload_n 2, 1) := by decide +kernel
theorem dX3_untilBlocked_16 : decode cX3_untilBlocked 16 = .ok (.invokevirtual 94, 3) := by decide +kernel
theorem dX3_untilBlocked_19 : decode cX3_untilBlocked 19 = .ok (.ifCond .eq 46, 3) := by decide +kernel
theorem dX3_untilBlocked_22 : decode cX3_untilBlocked 22 = .ok (.aload_n 0, 1) := by decide +kernel
theorem dX3_untilBlocked_23 : decode cX3_untilBlocked 23 = .ok (.getfield 10, 3) := by decide +kernel
theorem dX3_untilBlocked_26 : decode cX3_untilBlocked 26 = .ok (.iload_n 2, 1) := by decide +kernel
theorem dX3_untilBlocked_27 : decode cX3_untilBlocked 27 = .ok (.invokevirtual 134, 3) := by decide +kernel
theorem dX3_untilBlocked_30 : decode cX3_untilBlocked 30 = .ok (.ifCond .ne 35, 3) := by decide +kernel
theorem dX3_untilBlocked_33 : decode cX3_untilBlocked 33 = .ok (.aload_n 0, 1) := by decide +kernel
theorem dX3_untilBlocked_34 : decode cX3_untilBlocked 34 = .ok (.getfield 10, 3) := by decide +kernel
theorem dX3_untilBlocked_37 : decode cX3_untilBlocked 37 = .ok (.getfield 49, 3) := by decide +kernel
theorem dX3_untilBlocked_40 : decode cX3_untilBlocked 40 = .ok (.iconst 0, 1) := by decide +kernel
theorem dX3_untilBlocked_41 : decode cX3_untilBlocked 41 = .ok (.iaload, 1) := by decide +kernel
theorem dX3_untilBlocked_42 : decode cX3_untilBlocked 42 = .ok (.aload_n 0, 1) := by decide +kernel
theorem dX3_untilBlocked_43 : decode cX3_untilBlocked 43 = .ok (.getfield 10, 3) := by decide +kernel
theorem dX3_untilBlocked_46 : decode cX3_untilBlocked 46 = .ok (.iload_n 2, 1) := by decide +kernel
theorem dX3_untilBlocked_47 : decode cX3_untilBlocked 47 = .ok (.invokevirtual 137, 3) := by decide +kernel
theorem dX3_untilBlocked_50 : decode cX3_untilBlocked 50 = .ok (.isub, 1) := by decide +kernel
theorem dX3_untilBlocked_51 : decode cX3_untilBlocked 51 = .ok (.istore_n 3, 1) := by decide +kernel
theorem dX3_untilBlocked_52 : decode cX3_untilBlocked 52 = .ok (.iload_n 1, 1) := by decide +kernel
theorem dX3_untilBlocked_53 : decode cX3_untilBlocked 53 = .ok (.bipush (-6), 2) := by decide +kernel
theorem dX3_untilBlocked_55 : decode cX3_untilBlocked 55 = .ok (.if_icmp .eq 8, 3) := by decide +kernel
theorem dX3_untilBlocked_58 : decode cX3_untilBlocked 58 = .ok (.iload_n 3, 1) := by decide +kernel
theorem dX3_untilBlocked_59 : decode cX3_untilBlocked 59 = .ok (.iload_n 1, 1) := by decide +kernel
theorem dX3_untilBlocked_60 : decode cX3_untilBlocked 60 = .ok (.if_icmp .ge 5, 3) := by decide +kernel
theorem dX3_untilBlocked_63 : decode cX3_untilBlocked 63 = .ok (.iload_n 3, 1) := by decide +kernel
theorem dX3_untilBlocked_64 : decode cX3_untilBlocked 64 = .ok (.istore_n 1, 1) := by decide +kernel
theorem dX3_untilBlocked_65 : decode cX3_untilBlocked 65 = .ok (.iinc 2 1, 3) := by decide +kernel
theorem dX3_untilBlocked_68 : decode cX3_untilBlocked 68 = .ok (.goto (-63), 3) := by decide +kernel
theorem dX3_untilBlocked_71 : decode cX3_untilBlocked 71 = .ok (.iload_n 1, 1) := by decide +kernel
theorem dX3_untilBlocked_72 : decode cX3_untilBlocked 72 = .ok (.ireturn, 1) := by decide +kernel
set_option maxRecDepth 20000 in
theorem ggX3_put_X2_numberOf : GoodIn wsX3_put wsX2_numberOf := goodIn_r _ [6, 7] (by decide +kernel) (by decide +kernel)
set_option maxRecDepth 20000 in
theorem gX3_put_X2_numberOf : GoodIn wsX3_put (va_wsS RX3 140 yX2_numberOf wsX2_numberOf) := goodIn_app (goodIn_of _ (by decide +kernel)) ggX3_put_X2_numberOf
set_option maxRecDepth 20000 in
theorem ggX3_put_X2_hasRoomFor : GoodIn wsX3_put wsX2_hasRoomFor := goodIn_r _ [11, 12, 24, 25] (by decide +kernel) (by decide +kernel)
set_option maxRecDepth 20000 in
theorem gX3_put_X2_hasRoomFor : GoodIn wsX3_put (wsV RX3 144 RX2 yX2_hasRoomFor wsX2_hasRoomFor) := goodIn_app (goodIn_of _ (by decide +kernel)) ggX3_put_X2_hasRoomFor
set_option maxRecDepth 20000 in
theorem ggX3_put_X2_append : GoodIn wsX3_put wsX2_append := goodIn_r _ [16, 12, 17, 7, 24, 25] (by decide +kernel) (by decide +kernel)
set_option maxRecDepth 20000 in
theorem gX3_put_X2_append : GoodIn wsX3_put (wsV RX3 145 RX2 yX2_append wsX2_append) := goodIn_app (goodIn_of _ (by decide +kernel)) ggX3_put_X2_append
theorem dX3_put_0 : decode cX3_put 0 = .ok (.lload_n 1, 1) := by decide +kernel
theorem dX3_put_1 : decode cX3_put 1 = .ok (.invokestatic 140, 3) := by decide +kernel
theorem dX3_put_4 : decode cX3_put 4 = .ok (.istore_n 3, 1) := by decide +kernel
theorem dX3_put_5 : decode cX3_put 5 = .ok (.iload_n 3, 1) := by decide +kernel
theorem dX3_put_6 : decode cX3_put 6 = .ok (.iconst 1, 1) := by decide +kernel
theorem dX3_put_7 : decode cX3_put 7 = .ok (.if_icmp .ge 6, 3) := by decide +kernel
theorem dX3_put_10 : decode cX3_put 10 = .ok (.bipush (-2), 2) := by decide +kernel
theorem dX3_put_12 : decode cX3_put 12 = .ok (.ireturn, 1) := by decide +kernel
theorem dX3_put_13 : decode cX3_put 13 = .ok (.aload_n 0, 1) := by decide +kernel
theorem dX3_put_14 : decode cX3_put 14 = .ok (.getfield 22, 3) := by decide +kernel
theorem dX3_put_17 : decode cX3_put 17 = .ok (.iload_n 3, 1) := by decide +kernel
theorem dX3_put_18 : decode cX3_put 18 = .ok (.invokevirtual 144, 3) := by decide +kernel
theorem dX3_put_21 : decode cX3_put 21 = .ok (.ifCond .ne 6, 3) := by decide +kernel
theorem dX3_put_24 : decode cX3_put 24 = .ok (.bipush (-4), 2) := by decide +kernel
theorem dX3_put_26 : decode cX3_put 26 = .ok (.ireturn, 1) := by decide +kernel
theorem dX3_put_27 : decode cX3_put 27 = .ok (.aload_n 0, 1) := by decide +kernel
theorem dX3_put_28 : decode cX3_put 28 = .ok (.getfield 22, 3) := by decide +kernel
theorem dX3_put_31 : decode cX3_put 31 = .ok (.lload_n 1, 1) := by decide +kernel
theorem dX3_put_32 : decode cX3_put 32 = .ok (.iload_n 3, 1) := by decide +kernel
theorem dX3_put_33 : decode cX3_put 33 = .ok (.invokevirtual 145, 3) := by decide +kernel
theorem dX3_put_36 : decode cX3_put 36 = .ok (.aload_n 0, 1) := by decide +kernel
theorem dX3_put_37 : decode cX3_put 37 = .ok (.getfield 22, 3) := by decide +kernel
theorem dX3_put_40 : decode cX3_put 40 = .ok (.getfield 106, 3) := by decide +kernel
theorem dX3_put_43 : decode cX3_put 43 = .ok (.ireturn, 1) := by decide +kernel
set_option maxRecDepth 20000 in
theorem ggX3_wipe_X2_empty : GoodIn wsX3_wipe wsX2_empty := goodIn_r _ [7, 8, 15, 16] (by decide +kernel) (by decide +kernel)
set_option maxRecDepth 20000 in
theorem gX3_wipe_X2_empty : GoodIn wsX3_wipe (wsV RX3 88 RX2 yX2_empty wsX2_empty) := goodIn_app (goodIn_of _ (by decide +kernel)) ggX3_wipe_X2_empty
theorem dX3_wipe_0 : decode cX3_wipe 0 = .ok (.aload_n 0, 1) := by decide +kernel
theorem dX3_wipe_1 : decode cX3_wipe 1 = .ok (.getfield 22, 3) := by decide +kernel
theorem dX3_wipe_4 : decode cX3_wipe 4 = .ok (.getfield 106, 3) := by decide +kernel
theorem dX3_wipe_7 : decode cX3_wipe 7 = .ok (.istore_n 1, 1) := by decide +kernel
theorem dX3_wipe_8 : decode cX3_wipe 8 = .ok (.aload_n 0, 1) := by decide +kernel
theorem dX3_wipe_9 : decode cX3_wipe 9 = .ok (.getfield 22, 3) := by decide +kernel
theorem dX3_wipe_12 : decode cX3_wipe 12 = .ok (.invokevirtual 88, 3) := by decide +kernel
theorem dX3_wipe_15 : decode cX3_wipe 15 = .ok (.iload_n 1, 1) := by decide +kernel
theorem dX3_wipe_16 : decode cX3_wipe 16 = .ok (.ireturn, 1) := by decide +kernel
set_option maxRecDepth 20000 in
theorem ggX3_fault_X2_firstFault : GoodIn wsX3_fault wsX2_firstFault := goodIn_r _ [6, 7, 8, 9, 10, 5, 11, 12, 13, 14, 15, 16, 17, 18, 19, 20, 21, 22, 23, 30, 31] (by decide +kernel) (by decide +kernel)
set_option maxRecDepth 20000 in
theorem gX3_fault_X2_firstFault : GoodIn wsX3_fault (wsV RX3 81 RX2 yX2_firstFault wsX2_firstFault) := goodIn_app (goodIn_of _ (by decide +kernel)) ggX3_fault_X2_firstFault
theorem dX3_fault_0 : decode cX3_fault 0 = .ok (.aload_n 0, 1) := by decide +kernel
theorem dX3_fault_1 : decode cX3_fault 1 = .ok (.getfield 22, 3) := by decide +kernel
theorem dX3_fault_4 : decode cX3_fault 4 = .ok (.invokevirtual 81, 3) := by decide +kernel
theorem dX3_fault_7 : decode cX3_fault 7 = .ok (.ireturn, 1) := by decide +kernel
set_option maxRecDepth 20000 in
theorem ggX3_undo_X1_takeBack : GoodIn wsX3_undo wsX1_takeBack := goodIn_r _ [9, 10, 11, 12, 13, 14, 15, 16, 17, 18, 19, 26, 27, 28] (by decide +kernel) (by decide +kernel)
set_option maxRecDepth 20000 in
theorem gX3_undo_X1_takeBack : GoodIn wsX3_undo (wsV RX3 149 RX1 yX1_takeBack wsX1_takeBack) := goodIn_app (goodIn_of _ (by decide +kernel)) ggX3_undo_X1_takeBack
theorem dX3_undo_0 : decode cX3_undo 0 = .ok (.aload_n 0, 1) := by decide +kernel
theorem dX3_undo_1 : decode cX3_undo 1 = .ok (.getfield 29, 3) := by decide +kernel
theorem dX3_undo_4 : decode cX3_undo 4 = .ok (.getfield 110, 3) := by decide +kernel
theorem dX3_undo_7 : decode cX3_undo 7 = .ok (.ifCond .ne 6, 3) := by decide +kernel
theorem dX3_undo_10 : decode cX3_undo 10 = .ok (.bipush (-5), 2) := by decide +kernel
theorem dX3_undo_12 : decode cX3_undo 12 = .ok (.ireturn, 1) := by decide +kernel
theorem dX3_undo_13 : decode cX3_undo 13 = .ok (.aload_n 0, 1) := by decide +kernel
theorem dX3_undo_14 : decode cX3_undo 14 = .ok (.getfield 29, 3) := by decide +kernel
theorem dX3_undo_17 : decode cX3_undo 17 = .ok (.aload_n 0, 1) := by decide +kernel
theorem dX3_undo_18 : decode cX3_undo 18 = .ok (.getfield 10, 3) := by decide +kernel
theorem dX3_undo_21 : decode cX3_undo 21 = .ok (.getfield 49, 3) := by decide +kernel
theorem dX3_undo_24 : decode cX3_undo 24 = .ok (.invokevirtual 149, 3) := by decide +kernel
theorem dX3_undo_27 : decode cX3_undo 27 = .ok (.aload_n 0, 1) := by decide +kernel
theorem dX3_undo_28 : decode cX3_undo 28 = .ok (.getfield 29, 3) := by decide +kernel
theorem dX3_undo_31 : decode cX3_undo 31 = .ok (.getfield 110, 3) := by decide +kernel
theorem dX3_undo_34 : decode cX3_undo 34 = .ok (.ireturn, 1) := by decide +kernel
set_option maxRecDepth 20000 in
theorem ggX3_save_X3_isNoSlot : GoodIn wsX3_save wsX3_isNoSlot := goodIn_r _ [8] (by decide +kernel) (by decide +kernel)
set_option maxRecDepth 20000 in
theorem gX3_save_X3_isNoSlot : GoodIn wsX3_save (va_wsS RX3 152 yX3_isNoSlot wsX3_isNoSlot) := goodIn_app (goodIn_of _ (by decide +kernel)) ggX3_save_X3_isNoSlot
set_option maxRecDepth 20000 in
theorem ggX3_save_X3_copyRow : GoodIn wsX3_save wsX3_copyRow := goodIn_r _ [11, 12, 13, 14, 15] (by decide +kernel) (by decide +kernel)
set_option maxRecDepth 20000 in
theorem gX3_save_X3_copyRow : GoodIn wsX3_save (va_wsS RX3 119 yX3_copyRow wsX3_copyRow) := goodIn_app (goodIn_of _ (by decide +kernel)) ggX3_save_X3_copyRow
theorem dX3_save_0 : decode cX3_save 0 = .ok (.iload_n 1, 1) := by decide +kernel
theorem dX3_save_1 : decode cX3_save 1 = .ok (.invokestatic 152, 3) := by decide +kernel
theorem dX3_save_4 : decode cX3_save 4 = .ok (.ifCond .eq 6, 3) := by decide +kernel
theorem dX3_save_7 : decode cX3_save 7 = .ok (.bipush (-2), 2) := by decide +kernel
theorem dX3_save_9 : decode cX3_save 9 = .ok (.ireturn, 1) := by decide +kernel
theorem dX3_save_10 : decode cX3_save 10 = .ok (.aload_n 0, 1) := by decide +kernel
theorem dX3_save_11 : decode cX3_save 11 = .ok (.getfield 10, 3) := by decide +kernel
theorem dX3_save_14 : decode cX3_save 14 = .ok (.getfield 49, 3) := by decide +kernel
theorem dX3_save_17 : decode cX3_save 17 = .ok (.aload_n 0, 1) := by decide +kernel
theorem dX3_save_18 : decode cX3_save 18 = .ok (.getfield 35, 3) := by decide +kernel
theorem dX3_save_21 : decode cX3_save 21 = .ok (.iload_n 1, 1) := by decide +kernel
theorem dX3_save_22 : decode cX3_save 22 = .ok (.aaload, 1) := by decide +kernel
theorem dX3_save_23 : decode cX3_save 23 = .ok (.invokestatic 119, 3) := by decide +kernel
theorem dX3_save_26 : decode cX3_save 26 = .ok (.aload_n 0, 1) := by decide +kernel
theorem dX3_save_27 : decode cX3_save 27 = .ok (.getfield 38, 3) := by decide +kernel
theorem dX3_save_30 : decode cX3_save 30 = .ok (.iload_n 1, 1) := by decide +kernel
theorem dX3_save_31 : decode cX3_save 31 = .ok (.iconst 1, 1) := by decide +kernel
theorem dX3_save_32 : decode cX3_save 32 = .ok (.bastore, 1) := by decide +kernel
theorem dX3_save_33 : decode cX3_save 33 = .ok (.aload_n 0, 1) := by decide +kernel
theorem dX3_save_34 : decode cX3_save 34 = .ok (.getfield 10, 3) := by decide +kernel
theorem dX3_save_37 : decode cX3_save 37 = .ok (.getfield 49, 3) := by decide +kernel
theorem dX3_save_40 : decode cX3_save 40 = .ok (.iconst 4, 1) := by decide +kernel
theorem dX3_save_41 : decode cX3_save 41 = .ok (.iaload, 1) := by decide +kernel
theorem dX3_save_42 : decode cX3_save 42 = .ok (.ireturn, 1) := by decide +kernel
set_option maxRecDepth 20000 in
theorem ggX3_restore_X3_isNoSlot : GoodIn wsX3_restore wsX3_isNoSlot := goodIn_r _ [9] (by decide +kernel) (by decide +kernel)
set_option maxRecDepth 20000 in
theorem gX3_restore_X3_isNoSlot : GoodIn wsX3_restore (va_wsS RX3 152 yX3_isNoSlot wsX3_isNoSlot) := goodIn_app (goodIn_of _ (by decide +kernel)) ggX3_restore_X3_isNoSlot
set_option maxRecDepth 20000 in
theorem ggX3_restore_X1_keep : GoodIn wsX3_restore wsX1_keep := goodIn_r _ [14, 15, 16, 17, 18, 19, 20, 21, 22, 8, 23, 24, 25, 26, 27, 36, 37, 38] (by decide +kernel) (by decide +kernel)
set_option maxRecDepth 20000 in
theorem gX3_restore_X1_keep : GoodIn wsX3_restore (wsV RX3 52 RX1 yX1_keep wsX1_keep) := goodIn_app (goodIn_of _ (by decide +kernel)) ggX3_restore_X1_keep
set_option maxRecDepth 20000 in
theorem ggX3_restore_X3_copyRow : GoodIn wsX3_restore wsX3_copyRow := goodIn_r _ [23, 24, 25, 26, 27] (by decide +kernel) (by decide +kernel)
set_option maxRecDepth 20000 in
theorem gX3_restore_X3_copyRow : GoodIn wsX3_restore (va_wsS RX3 119 yX3_copyRow wsX3_copyRow) := goodIn_app (goodIn_of _ (by decide +kernel)) ggX3_restore_X3_copyRow
theorem dX3_restore_0 : decode cX3_restore 0 = .ok (.iload_n 1, 1) := by decide +kernel
theorem dX3_restore_1 : decode cX3_restore 1 = .ok (.invokestatic 152, 3) := by decide +kernel
theorem dX3_restore_4 : decode cX3_restore 4 = .ok (.ifCond .eq 6, 3) := by decide +kernel
theorem dX3_restore_7 : decode cX3_restore 7 = .ok (.bipush (-2), 2) := by decide +kernel
theorem dX3_restore_9 : decode cX3_restore 9 = .ok (.ireturn, 1) := by decide +kernel
theorem dX3_restore_10 : decode cX3_restore 10 = .ok (.aload_n 0, 1) := by decide +kernel
theorem dX3_restore_11 : decode cX3_restore 11 = .ok (.getfield 38, 3) := by decide +kernel
theorem dX3_restore_14 : decode cX3_restore 14 = .ok (.iload_n 1, 1) := by decide +kernel
theorem dX3_restore_15 : decode cX3_restore 15 = .ok (.baload, 1) := by decide +kernel
theorem dX3_restore_16 : decode cX3_restore 16 = .ok (.ifCond .ne 6, 3) := by decide +kernel
theorem dX3_restore_19 : decode cX3_restore 19 = .ok (.bipush (-5), 2) := by decide +kernel
theorem dX3_restore_21 : decode cX3_restore 21 = .ok (.ireturn, 1) := by decide +kernel
theorem dX3_restore_22 : decode cX3_restore 22 = .ok (.aload_n 0, 1) := by decide +kernel
theorem dX3_restore_23 : decode cX3_restore 23 = .ok (.getfield 29, 3) := by decide +kernel
theorem dX3_restore_26 : decode cX3_restore 26 = .ok (.aload_n 0, 1) := by decide +kernel
theorem dX3_restore_27 : decode cX3_restore 27 = .ok (.getfield 10, 3) := by decide +kernel
theorem dX3_restore_30 : decode cX3_restore 30 = .ok (.getfield 49, 3) := by decide +kernel
theorem dX3_restore_33 : decode cX3_restore 33 = .ok (.invokevirtual 52, 3) := by decide +kernel
theorem dX3_restore_36 : decode cX3_restore 36 = .ok (.aload_n 0, 1) := by decide +kernel
theorem dX3_restore_37 : decode cX3_restore 37 = .ok (.getfield 35, 3) := by decide +kernel
theorem dX3_restore_40 : decode cX3_restore 40 = .ok (.iload_n 1, 1) := by decide +kernel
theorem dX3_restore_41 : decode cX3_restore 41 = .ok (.aaload, 1) := by decide +kernel
theorem dX3_restore_42 : decode cX3_restore 42 = .ok (.aload_n 0, 1) := by decide +kernel
theorem dX3_restore_43 : decode cX3_restore 43 = .ok (.getfield 10, 3) := by decide +kernel
theorem dX3_restore_46 : decode cX3_restore 46 = .ok (.getfield 49, 3) := by decide +kernel
theorem dX3_restore_49 : decode cX3_restore 49 = .ok (.invokestatic 119, 3) := by decide +kernel
theorem dX3_restore_52 : decode cX3_restore 52 = .ok (.aload_n 0, 1) := by decide +kernel
theorem dX3_restore_53 : decode cX3_restore 53 = .ok (.getfield 10, 3) := by decide +kernel
theorem dX3_restore_56 : decode cX3_restore 56 = .ok (.getfield 49, 3) := by decide +kernel
theorem dX3_restore_59 : decode cX3_restore 59 = .ok (.iconst 4, 1) := by decide +kernel
theorem dX3_restore_60 : decode cX3_restore 60 = .ok (.iaload, 1) := by decide +kernel
theorem dX3_restore_61 : decode cX3_restore 61 = .ok (.ireturn, 1) := by decide +kernel
theorem dX3_isNoGate_0 : decode cX3_isNoGate 0 = .ok (.iload_n 0, 1) := by decide +kernel
theorem dX3_isNoGate_1 : decode cX3_isNoGate 1 = .ok (.ifCond .lt 9, 3) := by decide +kernel
theorem dX3_isNoGate_4 : decode cX3_isNoGate 4 = .ok (.iload_n 0, 1) := by decide +kernel
theorem dX3_isNoGate_5 : decode cX3_isNoGate 5 = .ok (.bipush 6, 2) := by decide +kernel
theorem dX3_isNoGate_7 : decode cX3_isNoGate 7 = .ok (.if_icmp .lt 7, 3) := by decide +kernel
theorem dX3_isNoGate_10 : decode cX3_isNoGate 10 = .ok (.iconst 1, 1) := by decide +kernel
theorem dX3_isNoGate_11 : decode cX3_isNoGate 11 = .ok (.goto 4, 3) := by decide +kernel
theorem dX3_isNoGate_14 : decode cX3_isNoGate 14 = .ok (.iconst 0, 1) := by decide +kernel
theorem dX3_isNoGate_15 : decode cX3_isNoGate 15 = .ok (.ireturn, 1) := by decide +kernel
theorem dX3_isNoSlot_0 : decode cX3_isNoSlot 0 = .ok (.iload_n 0, 1) := by decide +kernel
theorem dX3_isNoSlot_1 : decode cX3_isNoSlot 1 = .ok (.ifCond .lt 8, 3) := by decide +kernel
theorem dX3_isNoSlot_4 : decode cX3_isNoSlot 4 = .ok (.iload_n 0, 1) := by decide +kernel
theorem dX3_isNoSlot_5 : decode cX3_isNoSlot 5 = .ok (.iconst 2, 1) := by decide +kernel
theorem dX3_isNoSlot_6 : decode cX3_isNoSlot 6 = .ok (.if_icmp .lt 7, 3) := by decide +kernel
theorem dX3_isNoSlot_9 : decode cX3_isNoSlot 9 = .ok (.iconst 1, 1) := by decide +kernel
theorem dX3_isNoSlot_10 : decode cX3_isNoSlot 10 = .ok (.goto 4, 3) := by decide +kernel
theorem dX3_isNoSlot_13 : decode cX3_isNoSlot 13 = .ok (.iconst 0, 1) := by decide +kernel
theorem dX3_isNoSlot_14 : decode cX3_isNoSlot 14 = .ok (.ireturn, 1) := by decide +kernel
theorem dX3_copyRow_0 : decode cX3_copyRow 0 = .ok (.aload_n 0, 1) := by decide +kernel
theorem dX3_copyRow_1 : decode cX3_copyRow 1 = .ok (.iconst 0, 1) := by decide +kernel
theorem dX3_copyRow_2 : decode cX3_copyRow 2 = .ok (.aload_n 1, 1) := by decide +kernel
theorem dX3_copyRow_3 : decode cX3_copyRow 3 = .ok (.iconst 0, 1) := by decide +kernel
theorem dX3_copyRow_4 : decode cX3_copyRow 4 = .ok (.bipush 86, 2) := by decide +kernel
theorem dX3_copyRow_6 : decode cX3_copyRow 6 = .ok (.invokestatic 155, 3) := by decide +kernel
theorem dX3_copyRow_9 : decode cX3_copyRow 9 = .ok (.return_, 1) := by decide +kernel
end
section
set_option maxRecDepth 20000 in
theorem ggX4_init_X4_lays : GoodIn wsX4_init wsX4_lays := goodIn_r _ [15, 5, 16, 17, 18, 19, 20, 21, 22, 23, 24, 25] (by decide +kernel) (by decide +kernel)
set_option maxRecDepth 20000 in
theorem gX4_init_X4_lays : GoodIn wsX4_init (wsV RX4 28 RX4 yX4_lays wsX4_lays) := goodIn_app (goodIn_of _ (by decide +kernel)) ggX4_init_X4_lays
theorem dX4_init_0 : decode cX4_init 0 = .ok (.aload_n 0, 1) := by decide +kernel
theorem dX4_init_1 : decode cX4_init 1 = .ok (.invokespecial 1, 3) := by decide +kernel
theorem dX4_init_4 : decode cX4_init 4 = .ok (.aload_n 0, 1) := by decide +kernel
theorem dX4_init_5 : decode cX4_init 5 = .ok (.bipush 86, 2) := by decide +kernel
theorem dX4_init_7 : decode cX4_init 7 = .ok (.newarray .int, 2) := by decide +kernel
theorem dX4_init_9 : decode cX4_init 9 = .ok (.putfield 7, 3) := by decide +kernel
theorem dX4_init_12 : decode cX4_init 12 = .ok (.aload_n 0, 1) := by decide +kernel
theorem dX4_init_13 : decode cX4_init 13 = .ok (.bipush 86, 2) := by decide +kernel
theorem dX4_init_15 : decode cX4_init 15 = .ok (.newarray .int, 2) := by decide +kernel
theorem dX4_init_17 : decode cX4_init 17 = .ok (.putfield 13, 3) := by decide +kernel
theorem dX4_init_20 : decode cX4_init 20 = .ok (.aload_n 0, 1) := by decide +kernel
theorem dX4_init_21 : decode cX4_init 21 = .ok (.sipush 516, 3) := by decide +kernel
theorem dX4_init_24 : decode cX4_init 24 = .ok (.newarray .int, 2) := by decide +kernel
theorem dX4_init_26 : decode cX4_init 26 = .ok (.putfield 16, 3) := by decide +kernel
theorem dX4_init_29 : decode cX4_init 29 = .ok (.aload_n 0, 1) := by decide +kernel
theorem dX4_init_30 : decode cX4_init 30 = .ok (.sipush 172, 3) := by decide +kernel
theorem dX4_init_33 : decode cX4_init 33 = .ok (.newarray .int, 2) := by decide +kernel
theorem dX4_init_35 : decode cX4_init 35 = .ok (.putfield 19, 3) := by decide +kernel
theorem dX4_init_38 : decode cX4_init 38 = .ok (.aload_n 0, 1) := by decide +kernel
theorem dX4_init_39 : decode cX4_init 39 = .ok (.iconst 2, 1) := by decide +kernel
theorem dX4_init_40 : decode cX4_init 40 = .ok (.newarray .int, 2) := by decide +kernel
theorem dX4_init_42 : decode cX4_init 42 = .ok (.putfield 22, 3) := by decide +kernel
theorem dX4_init_45 : decode cX4_init 45 = .ok (.aload_n 0, 1) := by decide +kernel
theorem dX4_init_46 : decode cX4_init 46 = .ok (.bipush 60, 2) := by decide +kernel
theorem dX4_init_48 : decode cX4_init 48 = .ok (.newarray .int, 2) := by decide +kernel
theorem dX4_init_50 : decode cX4_init 50 = .ok (.putfield 25, 3) := by decide +kernel
theorem dX4_init_53 : decode cX4_init 53 = .ok (.aload_n 0, 1) := by decide +kernel
theorem dX4_init_54 : decode cX4_init 54 = .ok (.getfield 7, 3) := by decide +kernel
theorem dX4_init_57 : decode cX4_init 57 = .ok (.iconst 0, 1) := by decide +kernel
theorem dX4_init_58 : decode cX4_init 58 = .ok (.bipush 30, 2) := by decide +kernel
theorem dX4_init_60 : decode cX4_init 60 = .ok (.iastore, 1) := by decide +kernel
theorem dX4_init_61 : decode cX4_init 61 = .ok (.aload_n 0, 1) := by decide +kernel
theorem dX4_init_62 : decode cX4_init 62 = .ok (.getfield 7, 3) := by decide +kernel
theorem dX4_init_65 : decode cX4_init 65 = .ok (.iconst 1, 1) := by decide +kernel
theorem dX4_init_66 : decode cX4_init 66 = .ok (.iconst 3, 1) := by decide +kernel
theorem dX4_init_67 : decode cX4_init 67 = .ok (.iastore, 1) := by decide +kernel
theorem dX4_init_68 : decode cX4_init 68 = .ok (.aload_n 0, 1) := by decide +kernel
theorem dX4_init_69 : decode cX4_init 69 = .ok (.getfield 7, 3) := by decide +kernel
theorem dX4_init_72 : decode cX4_init 72 = .ok (.iconst 2, 1) := by decide +kernel
theorem dX4_init_73 : decode cX4_init 73 = .ok (.bipush 20, 2) := by decide +kernel
theorem dX4_init_75 : decode cX4_init 75 = .ok (.iastore, 1) := by decide +kernel
theorem dX4_init_76 : decode cX4_init 76 = .ok (.iconst 0, 1) := by decide +kernel
theorem dX4_init_77 : decode cX4_init 77 = .ok (.istore_n 1, 1) := by decide +kernel
theorem dX4_init_78 : decode cX4_init 78 = .ok (.iload_n 1, 1) := by decide +kernel
theorem dX4_init_79 : decode cX4_init 79 = .ok (.bipush 6, 2) := by decide +kernel
theorem dX4_init_81 : decode cX4_init 81 = .ok (.if_icmp .ge 26, 3) := by decide +kernel
theorem dX4_init_84 : decode cX4_init 84 = .ok (.aload_n 0, 1) := by decide +kernel
theorem dX4_init_85 : decode cX4_init 85 = .ok (.iload_n 1, 1) := by decide +kernel
theorem dX4_init_86 : decode cX4_init 86 = .ok (.iconst 1, 1) := by decide +kernel
theorem dX4_init_87 : decode cX4_init 87 = .ok (.bipush (-6), 2) := by decide +kernel
theorem dX4_init_89 : decode cX4_init 89 = .ok (.invokevirtual 28, 3) := by decide +kernel
theorem dX4_init_92 : decode cX4_init 92 = .ok (.aload_n 0, 1) := by decide +kernel
theorem dX4_init_93 : decode cX4_init 93 = .ok (.iload_n 1, 1) := by decide +kernel
theorem dX4_init_94 : decode cX4_init 94 = .ok (.bipush 11, 2) := by decide +kernel
theorem dX4_init_96 : decode cX4_init 96 = .ok (.bipush (-6), 2) := by decide +kernel
theorem dX4_init_98 : decode cX4_init 98 = .ok (.invokevirtual 28, 3) := by decide +kernel
theorem dX4_init_101 : decode cX4_init 101 = .ok (.iinc 1 1, 3) := by decide +kernel
theorem dX4_init_104 : decode cX4_init 104 = .ok (.goto (-26), 3) := by decide +kernel
theorem dX4_init_107 : decode cX4_init 107 = .ok (.return_, 1) := by decide +kernel
theorem dX4_in_0 : decode cX4_in 0 = .ok (.lload_n 0, 1) := by decide +kernel
theorem dX4_in_1 : decode cX4_in 1 = .ok (.lload_n 2, 1) := by decide +kernel
theorem dX4_in_2 : decode cX4_in 2 = .ok (.lcmp, 1) := by decide +kernel
theorem dX4_in_3 : decode cX4_in 3 = .ok (.ifCond .lt 14, 3) := by decide +kernel
theorem dX4_in_6 : decode cX4_in 6 = .ok (.lload_n 0, 1) := by decide +kernel
theorem dX4_in_7 : decode cX4_in 7 = .ok (.lload 4, 2) := by decide +kernel
theorem dX4_in_9 : decode cX4_in 9 = .ok (.lcmp, 1) := by decide +kernel
theorem dX4_in_10 : decode cX4_in 10 = .ok (.ifCond .gt 7, 3) := by decide +kernel
theorem dX4_in_13 : decode cX4_in 13 = .ok (.iconst 1, 1) := by decide +kernel
theorem dX4_in_14 : decode cX4_in 14 = .ok (.goto 4, 3) := by decide +kernel
theorem dX4_in_17 : decode cX4_in 17 = .ok (.iconst 0, 1) := by decide +kernel
theorem dX4_in_18 : decode cX4_in 18 = .ok (.ireturn, 1) := by decide +kernel
theorem dX4_changes_0 : decode cX4_changes 0 = .ok (.aload_n 0, 1) := by decide +kernel
theorem dX4_changes_1 : decode cX4_changes 1 = .ok (.getfield 32, 3) := by decide +kernel
theorem dX4_changes_4 : decode cX4_changes 4 = .ok (.bipush 6, 2) := by decide +kernel
theorem dX4_changes_6 : decode cX4_changes 6 = .ok (.if_icmp .ne 43, 3) := by decide +kernel
theorem dX4_changes_9 : decode cX4_changes 9 = .ok (.iconst 0, 1) := by decide +kernel
theorem dX4_changes_10 : decode cX4_changes 10 = .ok (.istore_n 1, 1) := by decide +kernel
theorem dX4_changes_11 : decode cX4_changes 11 = .ok (.iload_n 1, 1) := by decide +kernel
theorem dX4_changes_12 : decode cX4_changes 12 = .ok (.sipush 430, 3) := by decide +kernel
theorem dX4_changes_15 : decode cX4_changes 15 = .ok (.if_icmp .ge 24, 3) := by decide +kernel
theorem dX4_changes_18 : decode cX4_changes 18 = .ok (.aload_n 0, 1) := by decide +kernel
theorem dX4_changes_19 : decode cX4_changes 19 = .ok (.getfield 16, 3) := by decide +kernel
theorem dX4_changes_22 : decode cX4_changes 22 = .ok (.iload_n 1, 1) := by decide +kernel
theorem dX4_changes_23 : decode cX4_changes 23 = .ok (.aload_n 0, 1) := by decide +kernel
theorem dX4_changes_24 : decode cX4_changes 24 = .ok (.getfield 16, 3) := by decide +kernel
theorem dX4_changes_27 : decode cX4_changes 27 = .ok (.iload_n 1, 1) := by decide +kernel
theorem dX4_changes_28 : decode cX4_changes 28 = .ok (.bipush 86, 2) := by decide +kernel
theorem dX4_changes_30 : decode cX4_changes 30 = .ok (.iadd, 1) := by decide +kernel
theorem dX4_changes_31 : decode cX4_changes 31 = .ok (.iaload, 1) := by decide +kernel
theorem dX4_changes_32 : decode cX4_changes 32 = .ok (.iastore, 1) := by decide +kernel
theorem dX4_changes_33 : decode cX4_changes 33 = .ok (.iinc 1 1, 3) := by decide +kernel
theorem dX4_changes_36 : decode cX4_changes 36 = .ok (.goto (-25), 3) := by decide +kernel
theorem dX4_changes_39 : decode cX4_changes 39 = .ok (.aload_n 0, 1) := by decide +kernel
theorem dX4_changes_40 : decode cX4_changes 40 = .ok (.dup, 1) := by decide +kernel
theorem dX4_changes_41 : decode cX4_changes 41 = .ok (.getfield 32, 3) := by decide +kernel
theorem dX4_changes_44 : decode cX4_changes 44 = .ok (.iconst 1, 1) := by decide +kernel
theorem dX4_changes_45 : decode cX4_changes 45 = .ok (.isub, 1) := by decide +kernel
theorem dX4_changes_46 : decode cX4_changes 46 = .ok (.putfield 32, 3) := by decide +kernel
theorem dX4_changes_49 : decode cX4_changes 49 = .ok (.iconst 0, 1) := by decide +kernel
theorem dX4_changes_50 : decode cX4_changes 50 = .ok (.istore_n 1, 1) := by decide +kernel
theorem dX4_changes_51 : decode cX4_changes 51 = .ok (.iload_n 1, 1) := by decide +kernel
theorem dX4_changes_52 : decode cX4_changes 52 = .ok (.bipush 86, 2) := by decide +kernel
theorem dX4_changes_54 : decode cX4_changes 54 = .ok (.if_icmp .ge 29, 3) := by decide +kernel
theorem dX4_changes_57 : decode cX4_changes 57 = .ok (.aload_n 0, 1) := by decide +kernel
theorem dX4_changes_58 : decode cX4_changes 58 = .ok (.getfield 16, 3) := by decide +kernel
theorem dX4_changes_61 : decode cX4_changes 61 = .ok (.bipush 86, 2) := by decide +kernel
theorem dX4_changes_63 : decode cX4_changes 63 = .ok (.aload_n 0, 1) := by decide +kernel
theorem dX4_changes_64 : decode cX4_changes 64 = .ok (.getfield 32, 3) := by decide +kernel
theorem dX4_changes_67 : decode cX4_changes 67 = .ok (.imul, 1) := by decide +kernel
theorem dX4_changes_68 : decode cX4_changes 68 = .ok (.iload_n 1, 1) := by decide +kernel
theorem dX4_changes_69 : decode cX4_changes 69 = .ok (.iadd, 1) := by decide +kernel
theorem dX4_changes_70 : decode cX4_changes 70 = .ok (.aload_n 0, 1) := by decide +kernel
theorem dX4_changes_71 : decode cX4_changes 71 = .ok (.getfield 7, 3) := by decide +kernel
theorem dX4_changes_74 : decode cX4_changes 74 = .ok (.iload_n 1, 1) := by decide +kernel
theorem dX4_changes_75 : decode cX4_changes 75 = .ok (.iaload, 1) := by decide +kernel
theorem dX4_changes_76 : decode cX4_changes 76 = .ok (.iastore, 1) := by decide +kernel
theorem dX4_changes_77 : decode cX4_changes 77 = .ok (.iinc 1 1, 3) := by decide +kernel
theorem dX4_changes_80 : decode cX4_changes 80 = .ok (.goto (-29), 3) := by decide +kernel
theorem dX4_changes_83 : decode cX4_changes 83 = .ok (.aload_n 0, 1) := by decide +kernel
theorem dX4_changes_84 : decode cX4_changes 84 = .ok (.dup, 1) := by decide +kernel
theorem dX4_changes_85 : decode cX4_changes 85 = .ok (.getfield 32, 3) := by decide +kernel
theorem dX4_changes_88 : decode cX4_changes 88 = .ok (.iconst 1, 1) := by decide +kernel
theorem dX4_changes_89 : decode cX4_changes 89 = .ok (.iadd, 1) := by decide +kernel
theorem dX4_changes_90 : decode cX4_changes 90 = .ok (.putfield 32, 3) := by decide +kernel
theorem dX4_changes_93 : decode cX4_changes 93 = .ok (.return_, 1) := by decide +kernel
theorem dX4_keeps_0 : decode cX4_keeps 0 = .ok (.iconst 0, 1) := by decide +kernel
theorem dX4_keeps_1 : decode cX4_keeps 1 = .ok (.istore_n 1, 1) := by decide +kernel
theorem dX4_keeps_2 : decode cX4_keeps 2 = .ok (.iload_n 1, 1) := by decide +kernel
theorem dX4_keeps_3 : decode cX4_keeps 3 = .ok (.bipush 86, 2) := by decide +kernel
theorem dX4_keeps_5 : decode cX4_keeps 5 = .ok (.if_icmp .ge 21, 3) := by decide +kernel
theorem dX4_keeps_8 : decode cX4_keeps 8 = .ok (.aload_n 0, 1) := by decide +kernel
theorem dX4_keeps_9 : decode cX4_keeps 9 = .ok (.getfield 13, 3) := by decide +kernel
theorem dX4_keeps_12 : decode cX4_keeps 12 = .ok (.iload_n 1, 1) := by decide +kernel
theorem dX4_keeps_13 : decode cX4_keeps 13 = .ok (.aload_n 0, 1) := by decide +kernel
theorem dX4_keeps_14 : decode cX4_keeps 14 = .ok (.getfield 7, 3) := by decide +kernel
theorem dX4_keeps_17 : decode cX4_keeps 17 = .ok (.iload_n 1, 1) := by decide +kernel
theorem dX4_keeps_18 : decode cX4_keeps 18 = .ok (.iaload, 1) := by decide +kernel
theorem dX4_keeps_19 : decode cX4_keeps 19 = .ok (.iastore, 1) := by decide +kernel
theorem dX4_keeps_20 : decode cX4_keeps 20 = .ok (.iinc 1 1, 3) := by decide +kernel
theorem dX4_keeps_23 : decode cX4_keeps 23 = .ok (.goto (-21), 3) := by decide +kernel
theorem dX4_keeps_26 : decode cX4_keeps 26 = .ok (.return_, 1) := by decide +kernel
theorem dX4_comesBack_0 : decode cX4_comesBack 0 = .ok (.iconst 0, 1) := by decide +kernel
theorem dX4_comesBack_1 : decode cX4_comesBack 1 = .ok (.istore_n 1, 1) := by decide +kernel
theorem dX4_comesBack_2 : decode cX4_comesBack 2 = .ok (.iload_n 1, 1) := by decide +kernel
theorem dX4_comesBack_3 : decode cX4_comesBack 3 = .ok (.bipush 86, 2) := by decide +kernel
theorem dX4_comesBack_5 : decode cX4_comesBack 5 = .ok (.if_icmp .ge 21, 3) := by decide +kernel
theorem dX4_comesBack_8 : decode cX4_comesBack 8 = .ok (.aload_n 0, 1) := by decide +kernel
theorem dX4_comesBack_9 : decode cX4_comesBack 9 = .ok (.getfield 7, 3) := by decide +kernel
theorem dX4_comesBack_12 : decode cX4_comesBack 12 = .ok (.iload_n 1, 1) := by decide +kernel
theorem dX4_comesBack_13 : decode cX4_comesBack 13 = .ok (.aload_n 0, 1) := by decide +kernel
theorem dX4_comesBack_14 : decode cX4_comesBack 14 = .ok (.getfield 13, 3) := by decide +kernel
theorem dX4_comesBack_17 : decode cX4_comesBack 17 = .ok (.iload_n 1, 1) := by decide +kernel
theorem dX4_comesBack_18 : decode cX4_comesBack 18 = .ok (.iaload, 1) := by decide +kernel
theorem dX4_comesBack_19 : decode cX4_comesBack 19 = .ok (.iastore, 1) := by decide +kernel
theorem dX4_comesBack_20 : decode cX4_comesBack 20 = .ok (.iinc 1 1, 3) := by decide +kernel
theorem dX4_comesBack_23 : decode cX4_comesBack 23 = .ok (.goto (-21), 3) := by decide +kernel
theorem dX4_comesBack_26 : decode cX4_comesBack 26 = .ok (.return_, 1) := by decide +kernel
set_option maxRecDepth 20000 in
theorem ggX4_isGate_X4_in : GoodIn wsX4_isGate wsX4_in := goodIn_r _ [5] (by decide +kernel) (by decide +kernel)
set_option maxRecDepth 20000 in
theorem gX4_isGate_X4_in : GoodIn wsX4_isGate (va_wsS RX4 38 yX4_in wsX4_in) := goodIn_app (goodIn_of _ (by decide +kernel)) ggX4_isGate_X4_in
theorem dX4_isGate_0 : decode cX4_isGate 0 = .ok (.iload_n 0, 1) := by decide +kernel
theorem dX4_isGate_1 : decode cX4_isGate 1 = .ok (.i2l, 1) := by decide +kernel
theorem dX4_isGate_2 : decode cX4_isGate 2 = .ok (.lconst 0, 1) := by decide +kernel
theorem dX4_isGate_3 : decode cX4_isGate 3 = .ok (.ldc2_w 36, 3) := by decide +kernel
theorem dX4_isGate_6 : decode cX4_isGate 6 = .ok (.invokestatic 38, 3) := by decide +kernel
theorem dX4_isGate_9 : decode cX4_isGate 9 = .ok (.ireturn, 1) := by decide +kernel
theorem dX4_get_0 : decode cX4_get 0 = .ok (.aload_n 0, 1) := by decide +kernel
theorem dX4_get_1 : decode cX4_get 1 = .ok (.getfield 7, 3) := by decide +kernel
theorem dX4_get_4 : decode cX4_get 4 = .ok (.bipush 8, 2) := by decide +kernel
theorem dX4_get_6 : decode cX4_get 6 = .ok (.bipush 13, 2) := by decide +kernel
theorem dX4_get_8 : decode cX4_get 8 = .ok (.iload_n 1, 1) := by decide +kernel
theorem dX4_get_9 : decode cX4_get 9 = .ok (.imul, 1) := by decide +kernel
theorem dX4_get_10 : decode cX4_get 10 = .ok (.iadd, 1) := by decide +kernel
theorem dX4_get_11 : decode cX4_get 11 = .ok (.iload_n 2, 1) := by decide +kernel
theorem dX4_get_12 : decode cX4_get 12 = .ok (.iadd, 1) := by decide +kernel
theorem dX4_get_13 : decode cX4_get 13 = .ok (.iaload, 1) := by decide +kernel
theorem dX4_get_14 : decode cX4_get 14 = .ok (.ireturn, 1) := by decide +kernel
theorem dX4_lays_0 : decode cX4_lays 0 = .ok (.aload_n 0, 1) := by decide +kernel
theorem dX4_lays_1 : decode cX4_lays 1 = .ok (.getfield 7, 3) := by decide +kernel
theorem dX4_lays_4 : decode cX4_lays 4 = .ok (.bipush 8, 2) := by decide +kernel
theorem dX4_lays_6 : decode cX4_lays 6 = .ok (.bipush 13, 2) := by decide +kernel
theorem dX4_lays_8 : decode cX4_lays 8 = .ok (.iload_n 1, 1) := by decide +kernel
theorem dX4_lays_9 : decode cX4_lays 9 = .ok (.imul, 1) := by decide +kernel
theorem dX4_lays_10 : decode cX4_lays 10 = .ok (.iadd, 1) := by decide +kernel
theorem dX4_lays_11 : decode cX4_lays 11 = .ok (.iload_n 2, 1) := by decide +kernel
theorem dX4_lays_12 : decode cX4_lays 12 = .ok (.iadd, 1) := by decide +kernel
theorem dX4_lays_13 : decode cX4_lays 13 = .ok (.iload_n 3, 1) := by decide +kernel
theorem dX4_lays_14 : decode cX4_lays 14 = .ok (.iastore, 1) := by decide +kernel
theorem dX4_lays_15 : decode cX4_lays 15 = .ok (.return_, 1) := by decide +kernel
theorem dX4_more_0 : decode cX4_more 0 = .ok (.aload_n 0, 1) := by decide +kernel
theorem dX4_more_1 : decode cX4_more 1 = .ok (.getfield 7, 3) := by decide +kernel
theorem dX4_more_4 : decode cX4_more 4 = .ok (.bipush 8, 2) := by decide +kernel
theorem dX4_more_6 : decode cX4_more 6 = .ok (.bipush 13, 2) := by decide +kernel
theorem dX4_more_8 : decode cX4_more 8 = .ok (.iload_n 1, 1) := by decide +kernel
theorem dX4_more_9 : decode cX4_more 9 = .ok (.imul, 1) := by decide +kernel
theorem dX4_more_10 : decode cX4_more 10 = .ok (.iadd, 1) := by decide +kernel
theorem dX4_more_11 : decode cX4_more 11 = .ok (.iload_n 2, 1) := by decide +kernel
theorem dX4_more_12 : decode cX4_more 12 = .ok (.iadd, 1) := by decide +kernel
theorem dX4_more_13 : decode cX4_more 13 = .ok (.dup2, 1) := by decide +kernel
theorem dX4_more_14 : decode cX4_more 14 = .ok (.iaload, 1) := by decide +kernel
theorem dX4_more_15 : decode cX4_more 15 = .ok (.iload_n 3, 1) := by decide +kernel
theorem dX4_more_16 : decode cX4_more 16 = .ok (.iadd, 1) := by decide +kernel
theorem dX4_more_17 : decode cX4_more 17 = .ok (.iastore, 1) := by decide +kernel
theorem dX4_more_18 : decode cX4_more 18 = .ok (.return_, 1) := by decide +kernel
set_option maxRecDepth 20000 in
theorem ggX4_isUnderWay_X4_get : GoodIn wsX4_isUnderWay wsX4_get := goodIn_r _ [5, 6, 7, 8, 9, 10, 11, 12, 13, 14, 15, 16] (by decide +kernel) (by decide +kernel)
set_option maxRecDepth 20000 in
theorem gX4_isUnderWay_X4_get : GoodIn wsX4_isUnderWay (wsV RX4 42 RX4 yX4_get wsX4_get) := goodIn_app (goodIn_of _ (by decide +kernel)) ggX4_isUnderWay_X4_get
theorem dX4_isUnderWay_0 : decode cX4_isUnderWay 0 = .ok (.aload_n 0, 1) := by decide +kernel
theorem dX4_isUnderWay_1 : decode cX4_isUnderWay 1 = .ok (.iload_n 1, 1) := by decide +kernel
theorem dX4_isUnderWay_2 : decode cX4_isUnderWay 2 = .ok (.iconst 1, 1) := by decide +kernel
theorem dX4_isUnderWay_3 : decode cX4_isUnderWay 3 = .ok (.invokevirtual 42, 3) := by decide +kernel
theorem dX4_isUnderWay_6 : decode cX4_isUnderWay 6 = .ok (.bipush (-6), 2) := by decide +kernel
theorem dX4_isUnderWay_8 : decode cX4_isUnderWay 8 = .ok (.if_icmp .eq 7, 3) := by decide +kernel
theorem dX4_isUnderWay_11 : decode cX4_isUnderWay 11 = .ok (.iconst 1, 1) := by decide +kernel
theorem dX4_isUnderWay_12 : decode cX4_isUnderWay 12 = .ok (.goto 4, 3) := by decide +kernel
theorem dX4_isUnderWay_15 : decode cX4_isUnderWay 15 = .ok (.iconst 0, 1) := by decide +kernel
theorem dX4_isUnderWay_16 : decode cX4_isUnderWay 16 = .ok (.ireturn, 1) := by decide +kernel
set_option maxRecDepth 20000 in
theorem ggX4_isBlocked_X4_isUnderWay : GoodIn wsX4_isBlocked wsX4_isUnderWay := goodIn_r _ [6, 7, 8, 9, 5, 10, 1, 11, 12, 13, 14, 15, 16, 17, 18, 19, 20] (by decide +kernel) (by decide +kernel)
set_option maxRecDepth 20000 in
theorem gX4_isBlocked_X4_isUnderWay : GoodIn wsX4_isBlocked (wsV RX4 46 RX4 yX4_isUnderWay wsX4_isUnderWay) := goodIn_app (goodIn_of _ (by decide +kernel)) ggX4_isBlocked_X4_isUnderWay
set_option maxRecDepth 20000 in
theorem ggX4_isBlocked_X4_get : GoodIn wsX4_isBlocked wsX4_get := goodIn_r _ [10, 1, 11, 12, 13, 14, 15, 16, 17, 18, 19, 20] (by decide +kernel) (by decide +kernel)
set_option maxRecDepth 20000 in
theorem gX4_isBlocked_X4_get : GoodIn wsX4_isBlocked (wsV RX4 42 RX4 yX4_get wsX4_get) := goodIn_app (goodIn_of _ (by decide +kernel)) ggX4_isBlocked_X4_get
theorem dX4_isBlocked_0 : decode cX4_isBlocked 0 = .ok (.aload_n 0, 1) := by decide +kernel
theorem dX4_isBlocked_1 : decode cX4_isBlocked 1 = .ok (.iload_n 1, 1) := by decide +kernel
theorem dX4_isBlocked_2 : decode cX4_isBlocked 2 = .ok (.invokevirtual 46, 3) := by decide +kernel
theorem dX4_isBlocked_5 : decode cX4_isBlocked 5 = .ok (.ifCond .eq 29, 3) := by decide +kernel
theorem dX4_isBlocked_8 : decode cX4_isBlocked 8 = .ok (.aload_n 0, 1) := by decide +kernel
theorem dX4_isBlocked_9 : decode cX4_isBlocked 9 = .ok (.getfield 7, 3) := by decide +kernel
theorem dX4_isBlocked_12 : decode cX4_isBlocked 12 = .ok (.iconst 3, 1) := by decide +kernel
theorem dX4_isBlocked_13 : decode cX4_isBlocked 13 = .ok (.iaload, 1) := by decide +kernel
theorem dX4_isBlocked_14 : decode cX4_isBlocked 14 = .ok (.aload_n 0, 1) := by decide +kernel
theorem dX4_isBlocked_15 : decode cX4_isBlocked 15 = .ok (.iload_n 1, 1) := by decide +kernel
theorem dX4_isBlocked_16 : decode cX4_isBlocked 16 = .ok (.iconst 1, 1) := by decide +kernel
theorem dX4_isBlocked_17 : decode cX4_isBlocked 17 = .ok (.invokevirtual 42, 3) := by decide +kernel
theorem dX4_isBlocked_20 : decode cX4_isBlocked 20 = .ok (.isub, 1) := by decide +kernel
theorem dX4_isBlocked_21 : decode cX4_isBlocked 21 = .ok (.aload_n 0, 1) := by decide +kernel
theorem dX4_isBlocked_22 : decode cX4_isBlocked 22 = .ok (.getfield 7, 3) := by decide +kernel
theorem dX4_isBlocked_25 : decode cX4_isBlocked 25 = .ok (.iconst 0, 1) := by decide +kernel
theorem dX4_isBlocked_26 : decode cX4_isBlocked 26 = .ok (.iaload, 1) := by decide +kernel
theorem dX4_isBlocked_27 : decode cX4_isBlocked 27 = .ok (.if_icmp .lt 7, 3) := by decide +kernel
theorem dX4_isBlocked_30 : decode cX4_isBlocked 30 = .ok (.iconst 1, 1) := by decide +kernel
theorem dX4_isBlocked_31 : decode cX4_isBlocked 31 = .ok (.goto 4, 3) := by decide +kernel
theorem dX4_isBlocked_34 : decode cX4_isBlocked 34 = .ok (.iconst 0, 1) := by decide +kernel
theorem dX4_isBlocked_35 : decode cX4_isBlocked 35 = .ok (.ireturn, 1) := by decide +kernel
theorem dX4_lookBehind_0 : decode cX4_lookBehind 0 = .ok (.iload_n 0, 1) := by decide +kernel
theorem dX4_lookBehind_1 : decode cX4_lookBehind 1 = .ok (.iload_n 1, 1) := by decide +kernel
theorem dX4_lookBehind_2 : decode cX4_lookBehind 2 = .ok (.iadd, 1) := by decide +kernel
theorem dX4_lookBehind_3 : decode cX4_lookBehind 3 = .ok (.iconst 2, 1) := by decide +kernel
theorem dX4_lookBehind_4 : decode cX4_lookBehind 4 = .ok (.irem, 1) := by decide +kernel
theorem dX4_lookBehind_5 : decode cX4_lookBehind 5 = .ok (.ifCond .ne 7, 3) := by decide +kernel
theorem dX4_lookBehind_8 : decode cX4_lookBehind 8 = .ok (.iconst 1, 1) := by decide +kernel
theorem dX4_lookBehind_9 : decode cX4_lookBehind 9 = .ok (.goto 4, 3) := by decide +kernel
theorem dX4_lookBehind_12 : decode cX4_lookBehind 12 = .ok (.iconst 0, 1) := by decide +kernel
theorem dX4_lookBehind_13 : decode cX4_lookBehind 13 = .ok (.istore_n 2, 1) := by decide +kernel
theorem dX4_lookBehind_14 : decode cX4_lookBehind 14 = .ok (.iload_n 1, 1) := by decide +kernel
theorem dX4_lookBehind_15 : decode cX4_lookBehind 15 = .ok (.iconst 2, 1) := by decide +kernel
theorem dX4_lookBehind_16 : decode cX4_lookBehind 16 = .ok (.if_icmp .ne 11, 3) := by decide +kernel
theorem dX4_lookBehind_19 : decode cX4_lookBehind 19 = .ok (.iload_n 0, 1) := by decide +kernel
theorem dX4_lookBehind_20 : decode cX4_lookBehind 20 = .ok (.iconst 2, 1) := by decide +kernel
theorem dX4_lookBehind_21 : decode cX4_lookBehind 21 = .ok (.iadd, 1) := by decide +kernel
theorem dX4_lookBehind_22 : decode cX4_lookBehind 22 = .ok (.iconst 4, 1) := by decide +kernel
theorem dX4_lookBehind_23 : decode cX4_lookBehind 23 = .ok (.irem, 1) := by decide +kernel
theorem dX4_lookBehind_24 : decode cX4_lookBehind 24 = .ok (.goto 20, 3) := by decide +kernel
theorem dX4_lookBehind_27 : decode cX4_lookBehind 27 = .ok (.iload_n 2, 1) := by decide +kernel
theorem dX4_lookBehind_28 : decode cX4_lookBehind 28 = .ok (.ifCond .eq 11, 3) := by decide +kernel
theorem dX4_lookBehind_31 : decode cX4_lookBehind 31 = .ok (.iload_n 0, 1) := by decide +kernel
theorem dX4_lookBehind_32 : decode cX4_lookBehind 32 = .ok (.iconst 1, 1) := by decide +kernel
theorem dX4_lookBehind_33 : decode cX4_lookBehind 33 = .ok (.iadd, 1) := by decide +kernel
theorem dX4_lookBehind_34 : decode cX4_lookBehind 34 = .ok (.iconst 4, 1) := by decide +kernel
theorem dX4_lookBehind_35 : decode cX4_lookBehind 35 = .ok (.irem, 1) := by decide +kernel
theorem dX4_lookBehind_36 : decode cX4_lookBehind 36 = .ok (.goto 8, 3) := by decide +kernel
theorem dX4_lookBehind_39 : decode cX4_lookBehind 39 = .ok (.iload_n 0, 1) := by decide +kernel
theorem dX4_lookBehind_40 : decode cX4_lookBehind 40 = .ok (.iconst 3, 1) := by decide +kernel
theorem dX4_lookBehind_41 : decode cX4_lookBehind 41 = .ok (.iadd, 1) := by decide +kernel
theorem dX4_lookBehind_42 : decode cX4_lookBehind 42 = .ok (.iconst 4, 1) := by decide +kernel
theorem dX4_lookBehind_43 : decode cX4_lookBehind 43 = .ok (.irem, 1) := by decide +kernel
theorem dX4_lookBehind_44 : decode cX4_lookBehind 44 = .ok (.ireturn, 1) := by decide +kernel
theorem dX4_comesIn_0 : decode cX4_comesIn 0 = .ok (.aload_n 0, 1) := by decide +kernel
theorem dX4_comesIn_1 : decode cX4_comesIn 1 = .ok (.getfield 7, 3) := by decide +kernel
theorem dX4_comesIn_4 : decode cX4_comesIn 4 = .ok (.iconst 4, 1) := by decide +kernel
theorem dX4_comesIn_5 : decode cX4_comesIn 5 = .ok (.dup2, 1) := by decide +kernel
theorem dX4_comesIn_6 : decode cX4_comesIn 6 = .ok (.iaload, 1) := by decide +kernel
theorem dX4_comesIn_7 : decode cX4_comesIn 7 = .ok (.iconst 1, 1) := by decide +kernel
theorem dX4_comesIn_8 : decode cX4_comesIn 8 = .ok (.iadd, 1) := by decide +kernel
theorem dX4_comesIn_9 : decode cX4_comesIn 9 = .ok (.iastore, 1) := by decide +kernel
theorem dX4_comesIn_10 : decode cX4_comesIn 10 = .ok (.aload_n 0, 1) := by decide +kernel
theorem dX4_comesIn_11 : decode cX4_comesIn 11 = .ok (.getfield 7, 3) := by decide +kernel
theorem dX4_comesIn_14 : decode cX4_comesIn 14 = .ok (.iconst 5, 1) := by decide +kernel
theorem dX4_comesIn_15 : decode cX4_comesIn 15 = .ok (.aload_n 0, 1) := by decide +kernel
theorem dX4_comesIn_16 : decode cX4_comesIn 16 = .ok (.getfield 7, 3) := by decide +kernel
theorem dX4_comesIn_19 : decode cX4_comesIn 19 = .ok (.iconst 4, 1) := by decide +kernel
theorem dX4_comesIn_20 : decode cX4_comesIn 20 = .ok (.iaload, 1) := by decide +kernel
theorem dX4_comesIn_21 : decode cX4_comesIn 21 = .ok (.aload_n 0, 1) := by decide +kernel
theorem dX4_comesIn_22 : decode cX4_comesIn 22 = .ok (.getfield 7, 3) := by decide +kernel
theorem dX4_comesIn_25 : decode cX4_comesIn 25 = .ok (.iconst 5, 1) := by decide +kernel
theorem dX4_comesIn_26 : decode cX4_comesIn 26 = .ok (.iaload, 1) := by decide +kernel
theorem dX4_comesIn_27 : decode cX4_comesIn 27 = .ok (.if_icmp .le 12, 3) := by decide +kernel
theorem dX4_comesIn_30 : decode cX4_comesIn 30 = .ok (.aload_n 0, 1) := by decide +kernel
theorem dX4_comesIn_31 : decode cX4_comesIn 31 = .ok (.getfield 7, 3) := by decide +kernel
theorem dX4_comesIn_34 : decode cX4_comesIn 34 = .ok (.iconst 4, 1) := by decide +kernel
theorem dX4_comesIn_35 : decode cX4_comesIn 35 = .ok (.iaload, 1) := by decide +kernel
theorem dX4_comesIn_36 : decode cX4_comesIn 36 = .ok (.goto 9, 3) := by decide +kernel
theorem dX4_comesIn_39 : decode cX4_comesIn 39 = .ok (.aload_n 0, 1) := by decide +kernel
theorem dX4_comesIn_40 : decode cX4_comesIn 40 = .ok (.getfield 7, 3) := by decide +kernel
theorem dX4_comesIn_43 : decode cX4_comesIn 43 = .ok (.iconst 5, 1) := by decide +kernel
theorem dX4_comesIn_44 : decode cX4_comesIn 44 = .ok (.iaload, 1) := by decide +kernel
theorem dX4_comesIn_45 : decode cX4_comesIn 45 = .ok (.iastore, 1) := by decide +kernel
theorem dX4_comesIn_46 : decode cX4_comesIn 46 = .ok (.aload_n 0, 1) := by decide +kernel
theorem dX4_comesIn_47 : decode cX4_comesIn 47 = .ok (.getfield 7, 3) := by decide +kernel
theorem dX4_comesIn_50 : decode cX4_comesIn 50 = .ok (.bipush 6, 2) := by decide +kernel
theorem dX4_comesIn_52 : decode cX4_comesIn 52 = .ok (.dup2, 1) := by decide +kernel
theorem dX4_comesIn_53 : decode cX4_comesIn 53 = .ok (.iaload, 1) := by decide +kernel
theorem dX4_comesIn_54 : decode cX4_comesIn 54 = .ok (.aload_n 0, 1) := by decide +kernel
theorem dX4_comesIn_55 : decode cX4_comesIn 55 = .ok (.getfield 7, 3) := by decide +kernel
theorem dX4_comesIn_58 : decode cX4_comesIn 58 = .ok (.iconst 4, 1) := by decide +kernel
theorem dX4_comesIn_59 : decode cX4_comesIn 59 = .ok (.iaload, 1) := by decide +kernel
theorem dX4_comesIn_60 : decode cX4_comesIn 60 = .ok (.aload_n 0, 1) := by decide +kernel
theorem dX4_comesIn_61 : decode cX4_comesIn 61 = .ok (.getfield 7, 3) := by decide +kernel
theorem dX4_comesIn_64 : decode cX4_comesIn 64 = .ok (.iconst 2, 1) := by decide +kernel
theorem dX4_comesIn_65 : decode cX4_comesIn 65 = .ok (.iaload, 1) := by decide +kernel
theorem dX4_comesIn_66 : decode cX4_comesIn 66 = .ok (.if_icmp .le 7, 3) := by decide +kernel
theorem dX4_comesIn_69 : decode cX4_comesIn 69 = .ok (.iconst 1, 1) := by decide +kernel
theorem dX4_comesIn_70 : decode cX4_comesIn 70 = .ok (.goto 4, 3) := by decide +kernel
theorem dX4_comesIn_73 : decode cX4_comesIn 73 = .ok (.iconst 0, 1) := by decide +kernel
theorem dX4_comesIn_74 : decode cX4_comesIn 74 = .ok (.iadd, 1) := by decide +kernel
theorem dX4_comesIn_75 : decode cX4_comesIn 75 = .ok (.iastore, 1) := by decide +kernel
theorem dX4_comesIn_76 : decode cX4_comesIn 76 = .ok (.return_, 1) := by decide +kernel
theorem dX4_goesOut_0 : decode cX4_goesOut 0 = .ok (.aload_n 0, 1) := by decide +kernel
theorem dX4_goesOut_1 : decode cX4_goesOut 1 = .ok (.getfield 7, 3) := by decide +kernel
theorem dX4_goesOut_4 : decode cX4_goesOut 4 = .ok (.bipush 7, 2) := by decide +kernel
theorem dX4_goesOut_6 : decode cX4_goesOut 6 = .ok (.dup2, 1) := by decide +kernel
theorem dX4_goesOut_7 : decode cX4_goesOut 7 = .ok (.iaload, 1) := by decide +kernel
theorem dX4_goesOut_8 : decode cX4_goesOut 8 = .ok (.aload_n 0, 1) := by decide +kernel
theorem dX4_goesOut_9 : decode cX4_goesOut 9 = .ok (.getfield 7, 3) := by decide +kernel
theorem dX4_goesOut_12 : decode cX4_goesOut 12 = .ok (.iconst 4, 1) := by decide +kernel
theorem dX4_goesOut_13 : decode cX4_goesOut 13 = .ok (.iaload, 1) := by decide +kernel
theorem dX4_goesOut_14 : decode cX4_goesOut 14 = .ok (.ifCond .ne 7, 3) := by decide +kernel
theorem dX4_goesOut_17 : decode cX4_goesOut 17 = .ok (.iconst 1, 1) := by decide +kernel
theorem dX4_goesOut_18 : decode cX4_goesOut 18 = .ok (.goto 4, 3) := by decide +kernel
theorem dX4_goesOut_21 : decode cX4_goesOut 21 = .ok (.iconst 0, 1) := by decide +kernel
theorem dX4_goesOut_22 : decode cX4_goesOut 22 = .ok (.iadd, 1) := by decide +kernel
theorem dX4_goesOut_23 : decode cX4_goesOut 23 = .ok (.iastore, 1) := by decide +kernel
theorem dX4_goesOut_24 : decode cX4_goesOut 24 = .ok (.aload_n 0, 1) := by decide +kernel
theorem dX4_goesOut_25 : decode cX4_goesOut 25 = .ok (.getfield 7, 3) := by decide +kernel
theorem dX4_goesOut_28 : decode cX4_goesOut 28 = .ok (.iconst 4, 1) := by decide +kernel
theorem dX4_goesOut_29 : decode cX4_goesOut 29 = .ok (.dup2, 1) := by decide +kernel
theorem dX4_goesOut_30 : decode cX4_goesOut 30 = .ok (.iaload, 1) := by decide +kernel
theorem dX4_goesOut_31 : decode cX4_goesOut 31 = .ok (.aload_n 0, 1) := by decide +kernel
theorem dX4_goesOut_32 : decode cX4_goesOut 32 = .ok (.getfield 7, 3) := by decide +kernel
theorem dX4_goesOut_35 : decode cX4_goesOut 35 = .ok (.iconst 4, 1) := by decide +kernel
theorem dX4_goesOut_36 : decode cX4_goesOut 36 = .ok (.iaload, 1) := by decide +kernel
theorem dX4_goesOut_37 : decode cX4_goesOut 37 = .ok (.ifCond .le 7, 3) := by decide +kernel
theorem dX4_goesOut_40 : decode cX4_goesOut 40 = .ok (.iconst 1, 1) := by decide +kernel
theorem dX4_goesOut_41 : decode cX4_goesOut 41 = .ok (.goto 4, 3) := by decide +kernel
theorem dX4_goesOut_44 : decode cX4_goesOut 44 = .ok (.iconst 0, 1) := by decide +kernel
theorem dX4_goesOut_45 : decode cX4_goesOut 45 = .ok (.isub, 1) := by decide +kernel
theorem dX4_goesOut_46 : decode cX4_goesOut 46 = .ok (.iastore, 1) := by decide +kernel
theorem dX4_goesOut_47 : decode cX4_goesOut 47 = .ok (.return_, 1) := by decide +kernel
set_option maxRecDepth 20000 in
theorem ggX4_counts_X4_get : GoodIn wsX4_counts wsX4_get := goodIn_r _ [6, 1, 23, 24, 25, 26, 27, 28, 29, 30, 31, 32] (by decide +kernel) (by decide +kernel)
set_option maxRecDepth 20000 in
theorem gX4_counts_X4_get : GoodIn wsX4_counts (wsV RX4 42 RX4 yX4_get wsX4_get) := goodIn_app (goodIn_of _ (by decide +kernel)) ggX4_counts_X4_get
set_option maxRecDepth 20000 in
theorem ggX4_counts_X4_more : GoodIn wsX4_counts wsX4_more := goodIn_r _ [10, 1, 23, 24, 25, 26, 27, 28, 29, 30, 31, 32] (by decide +kernel) (by decide +kernel)
set_option maxRecDepth 20000 in
theorem gX4_counts_X4_more : GoodIn wsX4_counts (wsV RX4 50 RX4 yX4_more wsX4_more) := goodIn_app (goodIn_of _ (by decide +kernel)) ggX4_counts_X4_more
set_option maxRecDepth 20000 in
theorem ggX4_counts_X4_lays : GoodIn wsX4_counts wsX4_lays := goodIn_r _ [14, 1, 23, 24, 25, 26, 27, 28, 29, 30, 31, 32] (by decide +kernel) (by decide +kernel)
set_option maxRecDepth 20000 in
theorem gX4_counts_X4_lays : GoodIn wsX4_counts (wsV RX4 28 RX4 yX4_lays wsX4_lays) := goodIn_app (goodIn_of _ (by decide +kernel)) ggX4_counts_X4_lays
set_option maxRecDepth 20000 in
theorem ggX4_counts_X4_comesIn : GoodIn wsX4_counts wsX4_comesIn := goodIn_r _ [18, 1, 23, 24, 25, 26, 27, 28, 29, 30, 31, 32] (by decide +kernel) (by decide +kernel)
set_option maxRecDepth 20000 in
theorem gX4_counts_X4_comesIn : GoodIn wsX4_counts (wsV RX4 53 RX4 yX4_comesIn wsX4_comesIn) := goodIn_app (goodIn_of _ (by decide +kernel)) ggX4_counts_X4_comesIn
set_option maxRecDepth 20000 in
theorem ggX4_counts_X4_goesOut : GoodIn wsX4_counts wsX4_goesOut := goodIn_r _ [22, 1, 23, 24, 25, 26, 27, 28, 29, 30, 31, 32] (by decide +kernel) (by decide +kernel)
set_option maxRecDepth 20000 in
theorem gX4_counts_X4_goesOut : GoodIn wsX4_counts (wsV RX4 56 RX4 yX4_goesOut wsX4_goesOut) := goodIn_app (goodIn_of _ (by decide +kernel)) ggX4_counts_X4_goesOut
theorem dX4_counts_0 : decode cX4_counts 0 = .ok (.aload_n 0, 1) := by decide +kernel
theorem dX4_counts_1 : decode cX4_counts 1 = .ok (.iload_n 1, 1) := by decide +kernel
theorem dX4_counts_2 : decode cX4_counts 2 = .ok (.bipush 11, 2) := by decide +kernel
theorem dX4_counts_4 : decode cX4_counts 4 = .ok (.invokevirtual 42, 3) := by decide +kernel
theorem dX4_counts_7 : decode cX4_counts 7 = .ok (.bipush (-6), 2) := by decide +kernel
theorem dX4_counts_9 : decode cX4_counts 9 = .ok (.if_icmp .eq 41, 3) := by decide +kernel
theorem dX4_counts_12 : decode cX4_counts 12 = .ok (.aload_n 0, 1) := by decide +kernel
theorem dX4_counts_13 : decode cX4_counts 13 = .ok (.iload_n 1, 1) := by decide +kernel
theorem dX4_counts_14 : decode cX4_counts 14 = .ok (.bipush 12, 2) := by decide +kernel
theorem dX4_counts_16 : decode cX4_counts 16 = .ok (.invokevirtual 42, 3) := by decide +kernel
theorem dX4_counts_19 : decode cX4_counts 19 = .ok (.iload_n 2, 1) := by decide +kernel
theorem dX4_counts_20 : decode cX4_counts 20 = .ok (.if_icmp .ne 30, 3) := by decide +kernel
theorem dX4_counts_23 : decode cX4_counts 23 = .ok (.aload_n 0, 1) := by decide +kernel
theorem dX4_counts_24 : decode cX4_counts 24 = .ok (.iload_n 1, 1) := by decide +kernel
theorem dX4_counts_25 : decode cX4_counts 25 = .ok (.iconst 1, 1) := by decide +kernel
theorem dX4_counts_26 : decode cX4_counts 26 = .ok (.invokevirtual 42, 3) := by decide +kernel
theorem dX4_counts_29 : decode cX4_counts 29 = .ok (.aload_n 0, 1) := by decide +kernel
theorem dX4_counts_30 : decode cX4_counts 30 = .ok (.iload_n 1, 1) := by decide +kernel
theorem dX4_counts_31 : decode cX4_counts 31 = .ok (.bipush 11, 2) := by decide +kernel
theorem dX4_counts_33 : decode cX4_counts 33 = .ok (.invokevirtual 42, 3) := by decide +kernel
theorem dX4_counts_36 : decode cX4_counts 36 = .ok (.isub, 1) := by decide +kernel
theorem dX4_counts_37 : decode cX4_counts 37 = .ok (.aload_n 0, 1) := by decide +kernel
theorem dX4_counts_38 : decode cX4_counts 38 = .ok (.getfield 7, 3) := by decide +kernel
theorem dX4_counts_41 : decode cX4_counts 41 = .ok (.iconst 1, 1) := by decide +kernel
theorem dX4_counts_42 : decode cX4_counts 42 = .ok (.iaload, 1) := by decide +kernel
theorem dX4_counts_43 : decode cX4_counts 43 = .ok (.if_icmp .gt 7, 3) := by decide +kernel
theorem dX4_counts_46 : decode cX4_counts 46 = .ok (.iconst 1, 1) := by decide +kernel
theorem dX4_counts_47 : decode cX4_counts 47 = .ok (.goto 4, 3) := by decide +kernel
theorem dX4_counts_50 : decode cX4_counts 50 = .ok (.iconst 0, 1) := by decide +kernel
theorem dX4_counts_51 : decode cX4_counts 51 = .ok (.istore_n 3, 1) := by decide +kernel
theorem dX4_counts_52 : decode cX4_counts 52 = .ok (.aload_n 0, 1) := by decide +kernel
theorem dX4_counts_53 : decode cX4_counts 53 = .ok (.iload_n 1, 1) := by decide +kernel
theorem dX4_counts_54 : decode cX4_counts 54 = .ok (.bipush 9, 2) := by decide +kernel
theorem dX4_counts_56 : decode cX4_counts 56 = .ok (.iload_n 3, 1) := by decide +kernel
theorem dX4_counts_57 : decode cX4_counts 57 = .ok (.ifCond .eq 7, 3) := by decide +kernel
theorem dX4_counts_60 : decode cX4_counts 60 = .ok (.iconst 1, 1) := by decide +kernel
theorem dX4_counts_61 : decode cX4_counts 61 = .ok (.goto 4, 3) := by decide +kernel
theorem dX4_counts_64 : decode cX4_counts 64 = .ok (.iconst 0, 1) := by decide +kernel
theorem dX4_counts_65 : decode cX4_counts 65 = .ok (.invokevirtual 50, 3) := by decide +kernel
theorem dX4_counts_68 : decode cX4_counts 68 = .ok (.aload_n 0, 1) := by decide +kernel
theorem dX4_counts_69 : decode cX4_counts 69 = .ok (.iload_n 1, 1) := by decide +kernel
theorem dX4_counts_70 : decode cX4_counts 70 = .ok (.bipush 10, 2) := by decide +kernel
theorem dX4_counts_72 : decode cX4_counts 72 = .ok (.aload_n 0, 1) := by decide +kernel
theorem dX4_counts_73 : decode cX4_counts 73 = .ok (.getfield 7, 3) := by decide +kernel
theorem dX4_counts_76 : decode cX4_counts 76 = .ok (.iconst 3, 1) := by decide +kernel
theorem dX4_counts_77 : decode cX4_counts 77 = .ok (.iaload, 1) := by decide +kernel
theorem dX4_counts_78 : decode cX4_counts 78 = .ok (.aload_n 0, 1) := by decide +kernel
theorem dX4_counts_79 : decode cX4_counts 79 = .ok (.iload_n 1, 1) := by decide +kernel
theorem dX4_counts_80 : decode cX4_counts 80 = .ok (.iconst 1, 1) := by decide +kernel
theorem dX4_counts_81 : decode cX4_counts 81 = .ok (.invokevirtual 42, 3) := by decide +kernel
theorem dX4_counts_84 : decode cX4_counts 84 = .ok (.isub, 1) := by decide +kernel
theorem dX4_counts_85 : decode cX4_counts 85 = .ok (.invokevirtual 50, 3) := by decide +kernel
theorem dX4_counts_88 : decode cX4_counts 88 = .ok (.aload_n 0, 1) := by decide +kernel
theorem dX4_counts_89 : decode cX4_counts 89 = .ok (.iload_n 1, 1) := by decide +kernel
theorem dX4_counts_90 : decode cX4_counts 90 = .ok (.bipush 11, 2) := by decide +kernel
theorem dX4_counts_92 : decode cX4_counts 92 = .ok (.aload_n 0, 1) := by decide +kernel
theorem dX4_counts_93 : decode cX4_counts 93 = .ok (.getfield 7, 3) := by decide +kernel
theorem dX4_counts_96 : decode cX4_counts 96 = .ok (.iconst 3, 1) := by decide +kernel
theorem dX4_counts_97 : decode cX4_counts 97 = .ok (.iaload, 1) := by decide +kernel
theorem dX4_counts_98 : decode cX4_counts 98 = .ok (.invokevirtual 28, 3) := by decide +kernel
theorem dX4_counts_101 : decode cX4_counts 101 = .ok (.aload_n 0, 1) := by decide +kernel
theorem dX4_counts_102 : decode cX4_counts 102 = .ok (.iload_n 1, 1) := by decide +kernel
theorem dX4_counts_103 : decode cX4_counts 103 = .ok (.bipush 12, 2) := by decide +kernel
theorem dX4_counts_105 : decode cX4_counts 105 = .ok (.iload_n 2, 1) := by decide +kernel
theorem dX4_counts_106 : decode cX4_counts 106 = .ok (.invokevirtual 28, 3) := by decide +kernel
theorem dX4_counts_109 : decode cX4_counts 109 = .ok (.iload_n 2, 1) := by decide +kernel
theorem dX4_counts_110 : decode cX4_counts 110 = .ok (.iconst 4, 1) := by decide +kernel
theorem dX4_counts_111 : decode cX4_counts 111 = .ok (.if_icmp .ne 10, 3) := by decide +kernel
theorem dX4_counts_114 : decode cX4_counts 114 = .ok (.aload_n 0, 1) := by decide +kernel
theorem dX4_counts_115 : decode cX4_counts 115 = .ok (.invokevirtual 53, 3) := by decide +kernel
theorem dX4_counts_118 : decode cX4_counts 118 = .ok (.goto 7, 3) := by decide +kernel
theorem dX4_counts_121 : decode cX4_counts 121 = .ok (.aload_n 0, 1) := by decide +kernel
theorem dX4_counts_122 : decode cX4_counts 122 = .ok (.invokevirtual 56, 3) := by decide +kernel
theorem dX4_counts_125 : decode cX4_counts 125 = .ok (.return_, 1) := by decide +kernel
set_option maxRecDepth 20000 in
theorem ggX4_ends_X4_more : GoodIn wsX4_ends wsX4_more := goodIn_r _ [5, 6, 35, 36, 37, 38, 39, 40, 41, 42, 43, 44] (by decide +kernel) (by decide +kernel)
set_option maxRecDepth 20000 in
theorem gX4_ends_X4_more : GoodIn wsX4_ends (wsV RX4 50 RX4 yX4_more wsX4_more) := goodIn_app (goodIn_of _ (by decide +kernel)) ggX4_ends_X4_more
set_option maxRecDepth 20000 in
theorem ggX4_ends_X4_isBlocked : GoodIn wsX4_ends wsX4_isBlocked := goodIn_r _ [10, 6, 11, 12, 13, 4, 14, 15, 16, 17, 18, 35, 36, 37, 38, 39, 40, 41, 42, 43, 44] (by decide +kernel) (by decide +kernel)
set_option maxRecDepth 20000 in
theorem gX4_ends_X4_isBlocked : GoodIn wsX4_ends (wsV RX4 59 RX4 yX4_isBlocked wsX4_isBlocked) := goodIn_app (goodIn_of _ (by decide +kernel)) ggX4_ends_X4_isBlocked
set_option maxRecDepth 20000 in
theorem ggX4_ends_X4_counts : GoodIn wsX4_ends wsX4_counts := goodIn_r _ [22, 6, 15, 16, 17, 4, 18, 1, 2, 3, 5, 23, 24, 25, 26, 27, 28, 29, 30, 31, 32, 33, 34, 35, 36, 37, 38, 39, 40, 41, 42, 43, 44] (by decide +kernel) (by decide +kernel)
set_option maxRecDepth 20000 in
theorem gX4_ends_X4_counts : GoodIn wsX4_ends (wsV RX4 62 RX4 yX4_counts wsX4_counts) := goodIn_app (goodIn_of _ (by decide +kernel)) ggX4_ends_X4_counts
set_option maxRecDepth 20000 in
theorem ggX4_ends_X4_lays : GoodIn wsX4_ends wsX4_lays := goodIn_r _ [26, 6, 35, 36, 37, 38, 39, 40, 41, 42, 43, 44] (by decide +kernel) (by decide +kernel)
set_option maxRecDepth 20000 in
theorem gX4_ends_X4_lays : GoodIn wsX4_ends (wsV RX4 28 RX4 yX4_lays wsX4_lays) := goodIn_app (goodIn_of _ (by decide +kernel)) ggX4_ends_X4_lays
theorem dX4_ends_0 : decode cX4_ends 0 = .ok (.aload_n 0, 1) := by decide +kernel
theorem dX4_ends_1 : decode cX4_ends 1 = .ok (.iload_n 1, 1) := by decide +kernel
theorem dX4_ends_2 : decode cX4_ends 2 = .ok (.iload_n 2, 1) := by decide +kernel
theorem dX4_ends_3 : decode cX4_ends 3 = .ok (.iconst 1, 1) := by decide +kernel
theorem dX4_ends_4 : decode cX4_ends 4 = .ok (.invokevirtual 50, 3) := by decide +kernel
theorem dX4_ends_7 : decode cX4_ends 7 = .ok (.aload_n 0, 1) := by decide +kernel
theorem dX4_ends_8 : decode cX4_ends 8 = .ok (.iload_n 1, 1) := by decide +kernel
theorem dX4_ends_9 : decode cX4_ends 9 = .ok (.bipush 8, 2) := by decide +kernel
theorem dX4_ends_11 : decode cX4_ends 11 = .ok (.aload_n 0, 1) := by decide +kernel
theorem dX4_ends_12 : decode cX4_ends 12 = .ok (.iload_n 1, 1) := by decide +kernel
theorem dX4_ends_13 : decode cX4_ends 13 = .ok (.invokevirtual 59, 3) := by decide +kernel
theorem dX4_ends_16 : decode cX4_ends 16 = .ok (.ifCond .eq 7, 3) := by decide +kernel
theorem dX4_ends_19 : decode cX4_ends 19 = .ok (.iconst 1, 1) := by decide +kernel
theorem dX4_ends_20 : decode cX4_ends 20 = .ok (.goto 4, 3) := by decide +kernel
theorem dX4_ends_23 : decode cX4_ends 23 = .ok (.iconst 0, 1) := by decide +kernel
theorem dX4_ends_24 : decode cX4_ends 24 = .ok (.invokevirtual 50, 3) := by decide +kernel
theorem dX4_ends_27 : decode cX4_ends 27 = .ok (.iload_n 2, 1) := by decide +kernel
theorem dX4_ends_28 : decode cX4_ends 28 = .ok (.iconst 4, 1) := by decide +kernel
theorem dX4_ends_29 : decode cX4_ends 29 = .ok (.if_icmp .eq 8, 3) := by decide +kernel
theorem dX4_ends_32 : decode cX4_ends 32 = .ok (.iload_n 2, 1) := by decide +kernel
theorem dX4_ends_33 : decode cX4_ends 33 = .ok (.iconst 5, 1) := by decide +kernel
theorem dX4_ends_34 : decode cX4_ends 34 = .ok (.if_icmp .ne 9, 3) := by decide +kernel
theorem dX4_ends_37 : decode cX4_ends 37 = .ok (.aload_n 0, 1) := by decide +kernel
theorem dX4_ends_38 : decode cX4_ends 38 = .ok (.iload_n 1, 1) := by decide +kernel
theorem dX4_ends_39 : decode cX4_ends 39 = .ok (.iload_n 2, 1) := by decide +kernel
theorem dX4_ends_40 : decode cX4_ends 40 = .ok (.invokevirtual 62, 3) := by decide +kernel
theorem dX4_ends_43 : decode cX4_ends 43 = .ok (.aload_n 0, 1) := by decide +kernel
theorem dX4_ends_44 : decode cX4_ends 44 = .ok (.iload_n 1, 1) := by decide +kernel
theorem dX4_ends_45 : decode cX4_ends 45 = .ok (.iconst 1, 1) := by decide +kernel
theorem dX4_ends_46 : decode cX4_ends 46 = .ok (.bipush (-6), 2) := by decide +kernel
theorem dX4_ends_48 : decode cX4_ends 48 = .ok (.invokevirtual 28, 3) := by decide +kernel
theorem dX4_ends_51 : decode cX4_ends 51 = .ok (.aload_n 0, 1) := by decide +kernel
theorem dX4_ends_52 : decode cX4_ends 52 = .ok (.iload_n 1, 1) := by decide +kernel
theorem dX4_ends_53 : decode cX4_ends 53 = .ok (.iconst 2, 1) := by decide +kernel
theorem dX4_ends_54 : decode cX4_ends 54 = .ok (.iconst 0, 1) := by decide +kernel
theorem dX4_ends_55 : decode cX4_ends 55 = .ok (.invokevirtual 28, 3) := by decide +kernel
theorem dX4_ends_58 : decode cX4_ends 58 = .ok (.aload_n 0, 1) := by decide +kernel
theorem dX4_ends_59 : decode cX4_ends 59 = .ok (.iload_n 1, 1) := by decide +kernel
theorem dX4_ends_60 : decode cX4_ends 60 = .ok (.iconst 3, 1) := by decide +kernel
theorem dX4_ends_61 : decode cX4_ends 61 = .ok (.iconst 0, 1) := by decide +kernel
theorem dX4_ends_62 : decode cX4_ends 62 = .ok (.invokevirtual 28, 3) := by decide +kernel
theorem dX4_ends_65 : decode cX4_ends 65 = .ok (.aload_n 0, 1) := by decide +kernel
theorem dX4_ends_66 : decode cX4_ends 66 = .ok (.iload_n 1, 1) := by decide +kernel
theorem dX4_ends_67 : decode cX4_ends 67 = .ok (.iconst 0, 1) := by decide +kernel
theorem dX4_ends_68 : decode cX4_ends 68 = .ok (.iconst 0, 1) := by decide +kernel
theorem dX4_ends_69 : decode cX4_ends 69 = .ok (.invokevirtual 28, 3) := by decide +kernel
theorem dX4_ends_72 : decode cX4_ends 72 = .ok (.return_, 1) := by decide +kernel
set_option maxRecDepth 20000 in
theorem ggX4_happens_X4_get : GoodIn wsX4_happens wsX4_get := goodIn_r _ [6, 1, 42, 43, 44, 45, 46, 47, 48, 49, 50, 51] (by decide +kernel) (by decide +kernel)
set_option maxRecDepth 20000 in
theorem gX4_happens_X4_get : GoodIn wsX4_happens (wsV RX4 42 RX4 yX4_get wsX4_get) := goodIn_app (goodIn_of _ (by decide +kernel)) ggX4_happens_X4_get
set_option maxRecDepth 20000 in
theorem ggX4_happens_X4_lookBehind : GoodIn wsX4_happens wsX4_lookBehind := goodIn_r _ [9] (by decide +kernel) (by decide +kernel)
set_option maxRecDepth 20000 in
theorem gX4_happens_X4_lookBehind : GoodIn wsX4_happens (va_wsS RX4 66 yX4_lookBehind wsX4_lookBehind) := goodIn_app (goodIn_of _ (by decide +kernel)) ggX4_happens_X4_lookBehind
set_option maxRecDepth 20000 in
theorem ggX4_happens_X4_isUnderWay : GoodIn wsX4_happens wsX4_isUnderWay := goodIn_r _ [13, 2, 3, 4, 5, 6, 1, 42, 43, 44, 45, 46, 47, 48, 49, 50, 51] (by decide +kernel) (by decide +kernel)
set_option maxRecDepth 20000 in
theorem gX4_happens_X4_isUnderWay : GoodIn wsX4_happens (wsV RX4 46 RX4 yX4_isUnderWay wsX4_isUnderWay) := goodIn_app (goodIn_of _ (by decide +kernel)) ggX4_happens_X4_isUnderWay
set_option maxRecDepth 20000 in
theorem ggX4_happens_X4_lays : GoodIn wsX4_happens wsX4_lays := goodIn_r _ [17, 1, 42, 43, 44, 45, 46, 47, 48, 49, 50, 51] (by decide +kernel) (by decide +kernel)
set_option maxRecDepth 20000 in
theorem gX4_happens_X4_lays : GoodIn wsX4_happens (wsV RX4 28 RX4 yX4_lays wsX4_lays) := goodIn_app (goodIn_of _ (by decide +kernel)) ggX4_happens_X4_lays
set_option maxRecDepth 20000 in
theorem ggX4_happens_X4_more : GoodIn wsX4_happens wsX4_more := goodIn_r _ [21, 1, 42, 43, 44, 45, 46, 47, 48, 49, 50, 51] (by decide +kernel) (by decide +kernel)
set_option maxRecDepth 20000 in
theorem gX4_happens_X4_more : GoodIn wsX4_happens (wsV RX4 50 RX4 yX4_more wsX4_more) := goodIn_app (goodIn_of _ (by decide +kernel)) ggX4_happens_X4_more
set_option maxRecDepth 20000 in
theorem ggX4_happens_X4_ends : GoodIn wsX4_happens wsX4_ends := goodIn_r _ [25, 18, 19, 20, 5, 21, 1, 26, 27, 28, 29, 10, 11, 12, 13, 2, 3, 4, 6, 30, 31, 32, 33, 14, 15, 16, 17, 34, 35, 36, 37, 38, 39, 40, 41, 42, 43, 44, 45, 46, 47, 48, 49, 50, 51] (by decide +kernel) (by decide +kernel)
set_option maxRecDepth 20000 in
theorem gX4_happens_X4_ends : GoodIn wsX4_happens (wsV RX4 69 RX4 yX4_ends wsX4_ends) := goodIn_app (goodIn_of _ (by decide +kernel)) ggX4_happens_X4_ends
theorem dX4_happens_0 : decode cX4_happens 0 = .ok (.aload_n 0, 1) := by decide +kernel
theorem dX4_happens_1 : decode cX4_happens 1 = .ok (.iload_n 1, 1) := by decide +kernel
theorem dX4_happens_2 : decode cX4_happens 2 = .ok (.iconst 0, 1) := by decide +kernel
theorem dX4_happens_3 : decode cX4_happens 3 = .ok (.invokevirtual 42, 3) := by decide +kernel
theorem dX4_happens_6 : decode cX4_happens 6 = .ok (.istore_n 3, 1) := by decide +kernel
theorem dX4_happens_7 : decode cX4_happens 7 = .ok (.iload_n 3, 1) := by decide +kernel
theorem dX4_happens_8 : decode cX4_happens 8 = .ok (.iload_n 2, 1) := by decide +kernel
theorem dX4_happens_9 : decode cX4_happens 9 = .ok (.invokestatic 66, 3) := by decide +kernel
theorem dX4_happens_12 : decode cX4_happens 12 = .ok (.istore 4, 2) := by decide +kernel
theorem dX4_happens_14 : decode cX4_happens 14 = .ok (.aload_n 0, 1) := by decide +kernel
theorem dX4_happens_15 : decode cX4_happens 15 = .ok (.iload_n 1, 1) := by decide +kernel
theorem dX4_happens_16 : decode cX4_happens 16 = .ok (.invokevirtual 46, 3) := by decide +kernel
theorem dX4_happens_19 : decode cX4_happens 19 = .ok (.ifCond .ne 29, 3) := by decide +kernel
theorem dX4_happens_22 : decode cX4_happens 22 = .ok (.aload_n 0, 1) := by decide +kernel
theorem dX4_happens_23 : decode cX4_happens 23 = .ok (.iload_n 1, 1) := by decide +kernel
theorem dX4_happens_24 : decode cX4_happens 24 = .ok (.iconst 1, 1) := by decide +kernel
theorem dX4_happens_25 : decode cX4_happens 25 = .ok (.aload_n 0, 1) := by decide +kernel
theorem dX4_happens_26 : decode cX4_happens 26 = .ok (.getfield 7, 3) := by decide +kernel
theorem dX4_happens_29 : decode cX4_happens 29 = .ok (.iconst 3, 1) := by decide +kernel
theorem dX4_happens_30 : decode cX4_happens 30 = .ok (.iaload, 1) := by decide +kernel
theorem dX4_happens_31 : decode cX4_happens 31 = .ok (.invokevirtual 28, 3) := by decide +kernel
theorem dX4_happens_34 : decode cX4_happens 34 = .ok (.aload_n 0, 1) := by decide +kernel
theorem dX4_happens_35 : decode cX4_happens 35 = .ok (.iload_n 1, 1) := by decide +kernel
theorem dX4_happens_36 : decode cX4_happens 36 = .ok (.iconst 2, 1) := by decide +kernel
theorem dX4_happens_37 : decode cX4_happens 37 = .ok (.iconst 0, 1) := by decide +kernel
theorem dX4_happens_38 : decode cX4_happens 38 = .ok (.invokevirtual 28, 3) := by decide +kernel
theorem dX4_happens_41 : decode cX4_happens 41 = .ok (.aload_n 0, 1) := by decide +kernel
theorem dX4_happens_42 : decode cX4_happens 42 = .ok (.iload_n 1, 1) := by decide +kernel
theorem dX4_happens_43 : decode cX4_happens 43 = .ok (.iconst 3, 1) := by decide +kernel
theorem dX4_happens_44 : decode cX4_happens 44 = .ok (.iconst 1, 1) := by decide +kernel
theorem dX4_happens_45 : decode cX4_happens 45 = .ok (.invokevirtual 28, 3) := by decide +kernel
theorem dX4_happens_48 : decode cX4_happens 48 = .ok (.aload_n 0, 1) := by decide +kernel
theorem dX4_happens_49 : decode cX4_happens 49 = .ok (.iload_n 1, 1) := by decide +kernel
theorem dX4_happens_50 : decode cX4_happens 50 = .ok (.iconst 0, 1) := by decide +kernel
theorem dX4_happens_51 : decode cX4_happens 51 = .ok (.iload 4, 2) := by decide +kernel
theorem dX4_happens_53 : decode cX4_happens 53 = .ok (.invokevirtual 28, 3) := by decide +kernel
theorem dX4_happens_56 : decode cX4_happens 56 = .ok (.iload_n 2, 1) := by decide +kernel
theorem dX4_happens_57 : decode cX4_happens 57 = .ok (.iconst 2, 1) := by decide +kernel
theorem dX4_happens_58 : decode cX4_happens 58 = .ok (.if_icmp .ne 13, 3) := by decide +kernel
theorem dX4_happens_61 : decode cX4_happens 61 = .ok (.aload_n 0, 1) := by decide +kernel
theorem dX4_happens_62 : decode cX4_happens 62 = .ok (.iload_n 1, 1) := by decide +kernel
theorem dX4_happens_63 : decode cX4_happens 63 = .ok (.iconst 3, 1) := by decide +kernel
theorem dX4_happens_64 : decode cX4_happens 64 = .ok (.iconst 0, 1) := by decide +kernel
theorem dX4_happens_65 : decode cX4_happens 65 = .ok (.invokevirtual 28, 3) := by decide +kernel
theorem dX4_happens_68 : decode cX4_happens 68 = .ok (.goto 24, 3) := by decide +kernel
theorem dX4_happens_71 : decode cX4_happens 71 = .ok (.aload_n 0, 1) := by decide +kernel
theorem dX4_happens_72 : decode cX4_happens 72 = .ok (.iload_n 1, 1) := by decide +kernel
theorem dX4_happens_73 : decode cX4_happens 73 = .ok (.iconst 2, 1) := by decide +kernel
theorem dX4_happens_74 : decode cX4_happens 74 = .ok (.iload 4, 2) := by decide +kernel
theorem dX4_happens_76 : decode cX4_happens 76 = .ok (.iload_n 3, 1) := by decide +kernel
theorem dX4_happens_77 : decode cX4_happens 77 = .ok (.iconst 1, 1) := by decide +kernel
theorem dX4_happens_78 : decode cX4_happens 78 = .ok (.iadd, 1) := by decide +kernel
theorem dX4_happens_79 : decode cX4_happens 79 = .ok (.iconst 4, 1) := by decide +kernel
theorem dX4_happens_80 : decode cX4_happens 80 = .ok (.irem, 1) := by decide +kernel
theorem dX4_happens_81 : decode cX4_happens 81 = .ok (.if_icmp .ne 7, 3) := by decide +kernel
theorem dX4_happens_84 : decode cX4_happens 84 = .ok (.iconst 1, 1) := by decide +kernel
theorem dX4_happens_85 : decode cX4_happens 85 = .ok (.goto 4, 3) := by decide +kernel
theorem dX4_happens_88 : decode cX4_happens 88 = .ok (.iconst (-1), 1) := by decide +kernel
theorem dX4_happens_89 : decode cX4_happens 89 = .ok (.invokevirtual 50, 3) := by decide +kernel
theorem dX4_happens_92 : decode cX4_happens 92 = .ok (.iload 4, 2) := by decide +kernel
theorem dX4_happens_94 : decode cX4_happens 94 = .ok (.ifCond .eq 5, 3) := by decide +kernel
theorem dX4_happens_97 : decode cX4_happens 97 = .ok (.iconst 0, 1) := by decide +kernel
theorem dX4_happens_98 : decode cX4_happens 98 = .ok (.ireturn, 1) := by decide +kernel
theorem dX4_happens_99 : decode cX4_happens 99 = .ok (.aload_n 0, 1) := by decide +kernel
theorem dX4_happens_100 : decode cX4_happens 100 = .ok (.iload_n 1, 1) := by decide +kernel
theorem dX4_happens_101 : decode cX4_happens 101 = .ok (.iconst 2, 1) := by decide +kernel
theorem dX4_happens_102 : decode cX4_happens 102 = .ok (.invokevirtual 42, 3) := by decide +kernel
theorem dX4_happens_105 : decode cX4_happens 105 = .ok (.istore 5, 2) := by decide +kernel
theorem dX4_happens_107 : decode cX4_happens 107 = .ok (.aload_n 0, 1) := by decide +kernel
theorem dX4_happens_108 : decode cX4_happens 108 = .ok (.iload_n 1, 1) := by decide +kernel
theorem dX4_happens_109 : decode cX4_happens 109 = .ok (.aload_n 0, 1) := by decide +kernel
theorem dX4_happens_110 : decode cX4_happens 110 = .ok (.iload_n 1, 1) := by decide +kernel
theorem dX4_happens_111 : decode cX4_happens 111 = .ok (.iconst 3, 1) := by decide +kernel
theorem dX4_happens_112 : decode cX4_happens 112 = .ok (.invokevirtual 42, 3) := by decide +kernel
theorem dX4_happens_115 : decode cX4_happens 115 = .ok (.ifCond .ne 8, 3) := by decide +kernel
theorem dX4_happens_118 : decode cX4_happens 118 = .ok (.bipush 7, 2) := by decide +kernel
theorem dX4_happens_120 : decode cX4_happens 120 = .ok (.goto 26, 3) := by decide +kernel
theorem dX4_happens_123 : decode cX4_happens 123 = .ok (.iload 5, 2) := by decide +kernel
theorem dX4_happens_125 : decode cX4_happens 125 = .ok (.iconst 4, 1) := by decide +kernel
theorem dX4_happens_126 : decode cX4_happens 126 = .ok (.if_icmp .ne 7, 3) := by decide +kernel
theorem dX4_happens_129 : decode cX4_happens 129 = .ok (.iconst 4, 1) := by decide +kernel
theorem dX4_happens_130 : decode cX4_happens 130 = .ok (.goto 16, 3) := by decide +kernel
theorem dX4_happens_133 : decode cX4_happens 133 = .ok (.iload 5, 2) := by decide +kernel
theorem dX4_happens_135 : decode cX4_happens 135 = .ok (.bipush (-4), 2) := by decide +kernel
theorem dX4_happens_137 : decode cX4_happens 137 = .ok (.if_icmp .ne 7, 3) := by decide +kernel
theorem dX4_happens_140 : decode cX4_happens 140 = .ok (.iconst 5, 1) := by decide +kernel
theorem dX4_happens_141 : decode cX4_happens 141 = .ok (.goto 5, 3) := by decide +kernel
theorem dX4_happens_144 : decode cX4_happens 144 = .ok (.bipush 6, 2) := by decide +kernel
theorem dX4_happens_146 : decode cX4_happens 146 = .ok (.invokevirtual 69, 3) := by decide +kernel
theorem dX4_happens_149 : decode cX4_happens 149 = .ok (.iconst 1, 1) := by decide +kernel
theorem dX4_happens_150 : decode cX4_happens 150 = .ok (.ireturn, 1) := by decide +kernel
set_option maxRecDepth 20000 in
theorem ggX4_blocked_X4_isBlocked : GoodIn wsX4_blocked wsX4_isBlocked := goodIn_r _ [5, 6, 7, 8, 9, 4, 10, 11, 12, 13, 14, 15, 16, 17, 18, 19, 20, 21, 22, 23, 24] (by decide +kernel) (by decide +kernel)
set_option maxRecDepth 20000 in
theorem gX4_blocked_X4_isBlocked : GoodIn wsX4_blocked (wsV RX4 59 RX4 yX4_isBlocked wsX4_isBlocked) := goodIn_app (goodIn_of _ (by decide +kernel)) ggX4_blocked_X4_isBlocked
theorem dX4_blocked_0 : decode cX4_blocked 0 = .ok (.iconst 0, 1) := by decide +kernel
theorem dX4_blocked_1 : decode cX4_blocked 1 = .ok (.istore_n 1, 1) := by decide +kernel
theorem dX4_blocked_2 : decode cX4_blocked 2 = .ok (.iconst 0, 1) := by decide +kernel
theorem dX4_blocked_3 : decode cX4_blocked 3 = .ok (.istore_n 2, 1) := by decide +kernel
theorem dX4_blocked_4 : decode cX4_blocked 4 = .ok (.iload_n 2, 1) := by decide +kernel
theorem dX4_blocked_5 : decode cX4_blocked 5 = .ok (.bipush 6, 2) := by decide +kernel
theorem dX4_blocked_7 : decode cX4_blocked 7 = .ok (.if_icmp .ge 27, 3) := by decide +kernel
theorem dX4_blocked_10 : decode cX4_blocked 10 = .ok (.iload_n 1, 1) := by decide +kernel
theorem dX4_blocked_11 : decode cX4_blocked 11 = .ok (.aload_n 0, 1) := by decide +kernel
theorem dX4_blocked_12 : decode cX4_blocked 12 = .ok (.iload_n 2, 1) := by decide +kernel
theorem dX4_blocked_13 : decode cX4_blocked 13 = .ok (.invokevirtual 59, 3) := by decide +kernel
theorem dX4_blocked_16 : decode cX4_blocked 16 = .ok (.ifCond .eq 9, 3) := by decide +kernel
theorem dX4_blocked_19 : decode cX4_blocked 19 = .ok (.iconst 1, 1) := by decide +kernel
theorem dX4_blocked_20 : decode cX4_blocked 20 = .ok (.iload_n 2, 1) := by decide +kernel
theorem dX4_blocked_21 : decode cX4_blocked 21 = .ok (.ishl, 1) := by decide +kernel
theorem dX4_blocked_22 : decode cX4_blocked 22 = .ok (.goto 4, 3) := by decide +kernel
theorem dX4_blocked_25 : decode cX4_blocked 25 = .ok (.iconst 0, 1) := by decide +kernel
theorem dX4_blocked_26 : decode cX4_blocked 26 = .ok (.ior, 1) := by decide +kernel
theorem dX4_blocked_27 : decode cX4_blocked 27 = .ok (.istore_n 1, 1) := by decide +kernel
theorem dX4_blocked_28 : decode cX4_blocked 28 = .ok (.iinc 2 1, 3) := by decide +kernel
theorem dX4_blocked_31 : decode cX4_blocked 31 = .ok (.goto (-27), 3) := by decide +kernel
theorem dX4_blocked_34 : decode cX4_blocked 34 = .ok (.iload_n 1, 1) := by decide +kernel
theorem dX4_blocked_35 : decode cX4_blocked 35 = .ok (.ireturn, 1) := by decide +kernel
set_option maxRecDepth 20000 in
theorem ggX4_allOf_X4_get : GoodIn wsX4_allOf wsX4_get := goodIn_r _ [5, 6, 7, 8, 9, 10, 11, 12, 13, 14, 15, 16] (by decide +kernel) (by decide +kernel)
set_option maxRecDepth 20000 in
theorem gX4_allOf_X4_get : GoodIn wsX4_allOf (wsV RX4 42 RX4 yX4_get wsX4_get) := goodIn_app (goodIn_of _ (by decide +kernel)) ggX4_allOf_X4_get
theorem dX4_allOf_0 : decode cX4_allOf 0 = .ok (.iconst 0, 1) := by decide +kernel
theorem dX4_allOf_1 : decode cX4_allOf 1 = .ok (.istore_n 2, 1) := by decide +kernel
theorem dX4_allOf_2 : decode cX4_allOf 2 = .ok (.iconst 0, 1) := by decide +kernel
theorem dX4_allOf_3 : decode cX4_allOf 3 = .ok (.istore_n 3, 1) := by decide +kernel
theorem dX4_allOf_4 : decode cX4_allOf 4 = .ok (.iload_n 3, 1) := by decide +kernel
theorem dX4_allOf_5 : decode cX4_allOf 5 = .ok (.bipush 6, 2) := by decide +kernel
theorem dX4_allOf_7 : decode cX4_allOf 7 = .ok (.if_icmp .ge 18, 3) := by decide +kernel
theorem dX4_allOf_10 : decode cX4_allOf 10 = .ok (.iload_n 2, 1) := by decide +kernel
theorem dX4_allOf_11 : decode cX4_allOf 11 = .ok (.aload_n 0, 1) := by decide +kernel
theorem dX4_allOf_12 : decode cX4_allOf 12 = .ok (.iload_n 3, 1) := by decide +kernel
theorem dX4_allOf_13 : decode cX4_allOf 13 = .ok (.iload_n 1, 1) := by decide +kernel
theorem dX4_allOf_14 : decode cX4_allOf 14 = .ok (.invokevirtual 42, 3) := by decide +kernel
theorem dX4_allOf_17 : decode cX4_allOf 17 = .ok (.iadd, 1) := by decide +kernel
theorem dX4_allOf_18 : decode cX4_allOf 18 = .ok (.istore_n 2, 1) := by decide +kernel
theorem dX4_allOf_19 : decode cX4_allOf 19 = .ok (.iinc 3 1, 3) := by decide +kernel
theorem dX4_allOf_22 : decode cX4_allOf 22 = .ok (.goto (-18), 3) := by decide +kernel
theorem dX4_allOf_25 : decode cX4_allOf 25 = .ok (.iload_n 2, 1) := by decide +kernel
theorem dX4_allOf_26 : decode cX4_allOf 26 = .ok (.ireturn, 1) := by decide +kernel
set_option maxRecDepth 20000 in
theorem ggX4_isSetting_X4_in : GoodIn wsX4_isSetting wsX4_in := goodIn_r _ [7] (by decide +kernel) (by decide +kernel)
set_option maxRecDepth 20000 in
theorem gX4_isSetting_X4_in : GoodIn wsX4_isSetting (va_wsS RX4 38 yX4_in wsX4_in) := goodIn_app (goodIn_of _ (by decide +kernel)) ggX4_isSetting_X4_in
theorem dX4_isSetting_0 : decode cX4_isSetting 0 = .ok (.iload_n 0, 1) := by decide +kernel
theorem dX4_isSetting_1 : decode cX4_isSetting 1 = .ok (.tableswitch 57 0 2 #[27, 37, 47], 27) := by decide +kernel
theorem dX4_isSetting_28 : decode cX4_isSetting 28 = .ok (.iload_n 1, 1) := by decide +kernel
theorem dX4_isSetting_29 : decode cX4_isSetting 29 = .ok (.i2l, 1) := by decide +kernel
theorem dX4_isSetting_30 : decode cX4_isSetting 30 = .ok (.lconst 1, 1) := by decide +kernel
theorem dX4_isSetting_31 : decode cX4_isSetting 31 = .ok (.ldc2_w 72, 3) := by decide +kernel
theorem dX4_isSetting_34 : decode cX4_isSetting 34 = .ok (.invokestatic 38, 3) := by decide +kernel
theorem dX4_isSetting_37 : decode cX4_isSetting 37 = .ok (.ireturn, 1) := by decide +kernel
theorem dX4_isSetting_38 : decode cX4_isSetting 38 = .ok (.iload_n 1, 1) := by decide +kernel
theorem dX4_isSetting_39 : decode cX4_isSetting 39 = .ok (.i2l, 1) := by decide +kernel
theorem dX4_isSetting_40 : decode cX4_isSetting 40 = .ok (.lconst 0, 1) := by decide +kernel
theorem dX4_isSetting_41 : decode cX4_isSetting 41 = .ok (.ldc2_w 74, 3) := by decide +kernel
theorem dX4_isSetting_44 : decode cX4_isSetting 44 = .ok (.invokestatic 38, 3) := by decide +kernel
theorem dX4_isSetting_47 : decode cX4_isSetting 47 = .ok (.ireturn, 1) := by decide +kernel
theorem dX4_isSetting_48 : decode cX4_isSetting 48 = .ok (.iload_n 1, 1) := by decide +kernel
theorem dX4_isSetting_49 : decode cX4_isSetting 49 = .ok (.i2l, 1) := by decide +kernel
theorem dX4_isSetting_50 : decode cX4_isSetting 50 = .ok (.lconst 1, 1) := by decide +kernel
theorem dX4_isSetting_51 : decode cX4_isSetting 51 = .ok (.ldc2_w 76, 3) := by decide +kernel
theorem dX4_isSetting_54 : decode cX4_isSetting 54 = .ok (.invokestatic 38, 3) := by decide +kernel
theorem dX4_isSetting_57 : decode cX4_isSetting 57 = .ok (.ireturn, 1) := by decide +kernel
theorem dX4_isSetting_58 : decode cX4_isSetting 58 = .ok (.iconst 0, 1) := by decide +kernel
theorem dX4_isSetting_59 : decode cX4_isSetting 59 = .ok (.ireturn, 1) := by decide +kernel
set_option maxRecDepth 20000 in
theorem ggX4_set_X4_isSetting : GoodIn wsX4_set wsX4_isSetting := goodIn_r _ [5, 6, 7, 8, 9, 10, 4, 11] (by decide +kernel) (by decide +kernel)
set_option maxRecDepth 20000 in
theorem gX4_set_X4_isSetting : GoodIn wsX4_set (va_wsS RX4 78 yX4_isSetting wsX4_isSetting) := goodIn_app (goodIn_of _ (by decide +kernel)) ggX4_set_X4_isSetting
set_option maxRecDepth 20000 in
theorem ggX4_set_X4_changes : GoodIn wsX4_set wsX4_changes := goodIn_r _ [15, 16, 17, 1, 18, 19, 20, 21, 22, 23, 24, 25, 26, 27] (by decide +kernel) (by decide +kernel)
set_option maxRecDepth 20000 in
theorem gX4_set_X4_changes : GoodIn wsX4_set (wsV RX4 82 RX4 yX4_changes wsX4_changes) := goodIn_app (goodIn_of _ (by decide +kernel)) ggX4_set_X4_changes
theorem dX4_set_0 : decode cX4_set 0 = .ok (.iload_n 1, 1) := by decide +kernel
theorem dX4_set_1 : decode cX4_set 1 = .ok (.iload_n 2, 1) := by decide +kernel
theorem dX4_set_2 : decode cX4_set 2 = .ok (.invokestatic 78, 3) := by decide +kernel
theorem dX4_set_5 : decode cX4_set 5 = .ok (.ifCond .ne 6, 3) := by decide +kernel
theorem dX4_set_8 : decode cX4_set 8 = .ok (.bipush (-2), 2) := by decide +kernel
theorem dX4_set_10 : decode cX4_set 10 = .ok (.ireturn, 1) := by decide +kernel
theorem dX4_set_11 : decode cX4_set 11 = .ok (.aload_n 0, 1) := by decide +kernel
theorem dX4_set_12 : decode cX4_set 12 = .ok (.invokevirtual 82, 3) := by decide +kernel
theorem dX4_set_15 : decode cX4_set 15 = .ok (.aload_n 0, 1) := by decide +kernel
theorem dX4_set_16 : decode cX4_set 16 = .ok (.getfield 7, 3) := by decide +kernel
theorem dX4_set_19 : decode cX4_set 19 = .ok (.iload_n 1, 1) := by decide +kernel
theorem dX4_set_20 : decode cX4_set 20 = .ok (.iaload, 1) := by decide +kernel
theorem dX4_set_21 : decode cX4_set 21 = .ok (.istore_n 3, 1) := by decide +kernel
theorem dX4_set_22 : decode cX4_set 22 = .ok (.aload_n 0, 1) := by decide +kernel
theorem dX4_set_23 : decode cX4_set 23 = .ok (.getfield 7, 3) := by decide +kernel
theorem dX4_set_26 : decode cX4_set 26 = .ok (.iload_n 1, 1) := by decide +kernel
theorem dX4_set_27 : decode cX4_set 27 = .ok (.iload_n 2, 1) := by decide +kernel
theorem dX4_set_28 : decode cX4_set 28 = .ok (.iastore, 1) := by decide +kernel
theorem dX4_set_29 : decode cX4_set 29 = .ok (.iload_n 3, 1) := by decide +kernel
theorem dX4_set_30 : decode cX4_set 30 = .ok (.ireturn, 1) := by decide +kernel
set_option maxRecDepth 20000 in
theorem ggX4_event_X4_isGate : GoodIn wsX4_event wsX4_isGate := goodIn_r _ [5, 6, 7, 8, 4, 9] (by decide +kernel) (by decide +kernel)
set_option maxRecDepth 20000 in
theorem gX4_event_X4_isGate : GoodIn wsX4_event (va_wsS RX4 85 yX4_isGate wsX4_isGate) := goodIn_app (goodIn_of _ (by decide +kernel)) ggX4_event_X4_isGate
set_option maxRecDepth 20000 in
theorem ggX4_event_X4_in : GoodIn wsX4_event wsX4_in := goodIn_r _ [9] (by decide +kernel) (by decide +kernel)
set_option maxRecDepth 20000 in
theorem gX4_event_X4_in : GoodIn wsX4_event (va_wsS RX4 38 yX4_in wsX4_in) := goodIn_app (goodIn_of _ (by decide +kernel)) ggX4_event_X4_in
set_option maxRecDepth 20000 in
theorem ggX4_event_X4_changes : GoodIn wsX4_event wsX4_changes := goodIn_r _ [13, 14, 15, 16, 60, 61, 62, 63, 64, 65, 66, 67, 68, 69] (by decide +kernel) (by decide +kernel)
set_option maxRecDepth 20000 in
theorem gX4_event_X4_changes : GoodIn wsX4_event (wsV RX4 82 RX4 yX4_changes wsX4_changes) := goodIn_app (goodIn_of _ (by decide +kernel)) ggX4_event_X4_changes
set_option maxRecDepth 20000 in
theorem ggX4_event_X4_happens : GoodIn wsX4_event wsX4_happens := goodIn_r _ [20, 16, 21, 22, 23, 4, 24, 25, 26, 27, 28, 29, 30, 31, 32, 33, 34, 35, 36, 37, 38, 39, 40, 41, 42, 43, 44, 45, 46, 47, 48, 49, 50, 51, 52, 53, 54, 55, 56, 57, 58, 59, 60, 61, 62, 63, 64, 65, 66, 67, 68, 69] (by decide +kernel) (by decide +kernel)
set_option maxRecDepth 20000 in
theorem gX4_event_X4_happens : GoodIn wsX4_event (wsV RX4 90 RX4 yX4_happens wsX4_happens) := goodIn_app (goodIn_of _ (by decide +kernel)) ggX4_event_X4_happens
set_option maxRecDepth 20000 in
theorem ggX4_event_X4_get : GoodIn wsX4_event wsX4_get := goodIn_r _ [24, 16, 60, 61, 62, 63, 64, 65, 66, 67, 68, 69] (by decide +kernel) (by decide +kernel)
set_option maxRecDepth 20000 in
theorem gX4_event_X4_get : GoodIn wsX4_event (wsV RX4 42 RX4 yX4_get wsX4_get) := goodIn_app (goodIn_of _ (by decide +kernel)) ggX4_event_X4_get
theorem dX4_event_0 : decode cX4_event 0 = .ok (.iload_n 1, 1) := by decide +kernel
theorem dX4_event_1 : decode cX4_event 1 = .ok (.invokestatic 85, 3) := by decide +kernel
theorem dX4_event_4 : decode cX4_event 4 = .ok (.ifCond .ne 5, 3) := by decide +kernel
theorem dX4_event_7 : decode cX4_event 7 = .ok (.iconst (-1), 1) := by decide +kernel
theorem dX4_event_8 : decode cX4_event 8 = .ok (.ireturn, 1) := by decide +kernel
theorem dX4_event_9 : decode cX4_event 9 = .ok (.iload_n 2, 1) := by decide +kernel
theorem dX4_event_10 : decode cX4_event 10 = .ok (.i2l, 1) := by decide +kernel
theorem dX4_event_11 : decode cX4_event 11 = .ok (.lconst 0, 1) := by decide +kernel
theorem dX4_event_12 : decode cX4_event 12 = .ok (.ldc2_w 88, 3) := by decide +kernel
theorem dX4_event_15 : decode cX4_event 15 = .ok (.invokestatic 38, 3) := by decide +kernel
theorem dX4_event_18 : decode cX4_event 18 = .ok (.ifCond .ne 6, 3) := by decide +kernel
theorem dX4_event_21 : decode cX4_event 21 = .ok (.bipush (-2), 2) := by decide +kernel
theorem dX4_event_23 : decode cX4_event 23 = .ok (.ireturn, 1) := by decide +kernel
theorem dX4_event_24 : decode cX4_event 24 = .ok (.aload_n 0, 1) := by decide +kernel
theorem dX4_event_25 : decode cX4_event 25 = .ok (.invokevirtual 82, 3) := by decide +kernel
theorem dX4_event_28 : decode cX4_event 28 = .ok (.aload_n 0, 1) := by decide +kernel
theorem dX4_event_29 : decode cX4_event 29 = .ok (.iload_n 1, 1) := by decide +kernel
theorem dX4_event_30 : decode cX4_event 30 = .ok (.iload_n 2, 1) := by decide +kernel
theorem dX4_event_31 : decode cX4_event 31 = .ok (.invokevirtual 90, 3) := by decide +kernel
theorem dX4_event_34 : decode cX4_event 34 = .ok (.istore_n 3, 1) := by decide +kernel
theorem dX4_event_35 : decode cX4_event 35 = .ok (.aload_n 0, 1) := by decide +kernel
theorem dX4_event_36 : decode cX4_event 36 = .ok (.iload_n 1, 1) := by decide +kernel
theorem dX4_event_37 : decode cX4_event 37 = .ok (.iconst 0, 1) := by decide +kernel
theorem dX4_event_38 : decode cX4_event 38 = .ok (.invokevirtual 42, 3) := by decide +kernel
theorem dX4_event_41 : decode cX4_event 41 = .ok (.ireturn, 1) := by decide +kernel
theorem dX4_bits_0 : decode cX4_bits 0 = .ok (.iconst 0, 1) := by decide +kernel
theorem dX4_bits_1 : decode cX4_bits 1 = .ok (.istore_n 1, 1) := by decide +kernel
theorem dX4_bits_2 : decode cX4_bits 2 = .ok (.iconst 0, 1) := by decide +kernel
theorem dX4_bits_3 : decode cX4_bits 3 = .ok (.istore_n 2, 1) := by decide +kernel
theorem dX4_bits_4 : decode cX4_bits 4 = .ok (.iload_n 2, 1) := by decide +kernel
theorem dX4_bits_5 : decode cX4_bits 5 = .ok (.bipush 6, 2) := by decide +kernel
theorem dX4_bits_7 : decode cX4_bits 7 = .ok (.if_icmp .ge 17, 3) := by decide +kernel
theorem dX4_bits_10 : decode cX4_bits 10 = .ok (.iload_n 1, 1) := by decide +kernel
theorem dX4_bits_11 : decode cX4_bits 11 = .ok (.iload_n 0, 1) := by decide +kernel
theorem dX4_bits_12 : decode cX4_bits 12 = .ok (.iload_n 2, 1) := by decide +kernel
theorem dX4_bits_13 : decode cX4_bits 13 = .ok (.ishr, 1) := by decide +kernel
theorem dX4_bits_14 : decode cX4_bits 14 = .ok (.iconst 1, 1) := by decide +kernel
theorem dX4_bits_15 : decode cX4_bits 15 = .ok (.iand, 1) := by decide +kernel
theorem dX4_bits_16 : decode cX4_bits 16 = .ok (.iadd, 1) := by decide +kernel
theorem dX4_bits_17 : decode cX4_bits 17 = .ok (.istore_n 1, 1) := by decide +kernel
theorem dX4_bits_18 : decode cX4_bits 18 = .ok (.iinc 2 1, 3) := by decide +kernel
theorem dX4_bits_21 : decode cX4_bits 21 = .ok (.goto (-17), 3) := by decide +kernel
theorem dX4_bits_24 : decode cX4_bits 24 = .ok (.iload_n 1, 1) := by decide +kernel
theorem dX4_bits_25 : decode cX4_bits 25 = .ok (.ireturn, 1) := by decide +kernel
set_option maxRecDepth 20000 in
theorem ggX4_pass_X4_in : GoodIn wsX4_pass wsX4_in := goodIn_r _ [7] (by decide +kernel) (by decide +kernel)
set_option maxRecDepth 20000 in
theorem gX4_pass_X4_in : GoodIn wsX4_pass (va_wsS RX4 38 yX4_in wsX4_in) := goodIn_app (goodIn_of _ (by decide +kernel)) ggX4_pass_X4_in
set_option maxRecDepth 20000 in
theorem ggX4_pass_X4_changes : GoodIn wsX4_pass wsX4_changes := goodIn_r _ [11, 12, 13, 2, 33, 34, 35, 36, 37, 38, 39, 40, 41, 42] (by decide +kernel) (by decide +kernel)
set_option maxRecDepth 20000 in
theorem gX4_pass_X4_changes : GoodIn wsX4_pass (wsV RX4 82 RX4 yX4_changes wsX4_changes) := goodIn_app (goodIn_of _ (by decide +kernel)) ggX4_pass_X4_changes
set_option maxRecDepth 20000 in
theorem ggX4_pass_X4_blocked : GoodIn wsX4_pass wsX4_blocked := goodIn_r _ [17, 18, 19, 20, 6, 21, 2, 22, 23, 24, 25, 26, 27, 28, 29, 33, 34, 35, 36, 37, 38, 39, 40, 41, 42] (by decide +kernel) (by decide +kernel)
set_option maxRecDepth 20000 in
theorem gX4_pass_X4_blocked : GoodIn wsX4_pass (wsV RX4 96 RX4 yX4_blocked wsX4_blocked) := goodIn_app (goodIn_of _ (by decide +kernel)) ggX4_pass_X4_blocked
set_option maxRecDepth 20000 in
theorem ggX4_pass_X4_bits : GoodIn wsX4_pass wsX4_bits := goodIn_r _ [32] (by decide +kernel) (by decide +kernel)
set_option maxRecDepth 20000 in
theorem gX4_pass_X4_bits : GoodIn wsX4_pass (va_wsS RX4 100 yX4_bits wsX4_bits) := goodIn_app (goodIn_of _ (by decide +kernel)) ggX4_pass_X4_bits
theorem dX4_pass_0 : decode cX4_pass 0 = .ok (.iload_n 1, 1) := by decide +kernel
theorem dX4_pass_1 : decode cX4_pass 1 = .ok (.i2l, 1) := by decide +kernel
theorem dX4_pass_2 : decode cX4_pass 2 = .ok (.lconst 1, 1) := by decide +kernel
theorem dX4_pass_3 : decode cX4_pass 3 = .ok (.ldc2_w 93, 3) := by decide +kernel
theorem dX4_pass_6 : decode cX4_pass 6 = .ok (.invokestatic 38, 3) := by decide +kernel
theorem dX4_pass_9 : decode cX4_pass 9 = .ok (.ifCond .ne 6, 3) := by decide +kernel
theorem dX4_pass_12 : decode cX4_pass 12 = .ok (.bipush (-2), 2) := by decide +kernel
theorem dX4_pass_14 : decode cX4_pass 14 = .ok (.ireturn, 1) := by decide +kernel
theorem dX4_pass_15 : decode cX4_pass 15 = .ok (.aload_n 0, 1) := by decide +kernel
theorem dX4_pass_16 : decode cX4_pass 16 = .ok (.getfield 7, 3) := by decide +kernel
theorem dX4_pass_19 : decode cX4_pass 19 = .ok (.iconst 3, 1) := by decide +kernel
theorem dX4_pass_20 : decode cX4_pass 20 = .ok (.iaload, 1) := by decide +kernel
theorem dX4_pass_21 : decode cX4_pass 21 = .ok (.iload_n 1, 1) := by decide +kernel
theorem dX4_pass_22 : decode cX4_pass 22 = .ok (.iadd, 1) := by decide +kernel
theorem dX4_pass_23 : decode cX4_pass 23 = .ok (.ldc 95, 2) := by decide +kernel
theorem dX4_pass_25 : decode cX4_pass 25 = .ok (.if_icmp .le 6, 3) := by decide +kernel
theorem dX4_pass_28 : decode cX4_pass 28 = .ok (.bipush (-4), 2) := by decide +kernel
theorem dX4_pass_30 : decode cX4_pass 30 = .ok (.ireturn, 1) := by decide +kernel
theorem dX4_pass_31 : decode cX4_pass 31 = .ok (.aload_n 0, 1) := by decide +kernel
theorem dX4_pass_32 : decode cX4_pass 32 = .ok (.invokevirtual 82, 3) := by decide +kernel
theorem dX4_pass_35 : decode cX4_pass 35 = .ok (.aload_n 0, 1) := by decide +kernel
theorem dX4_pass_36 : decode cX4_pass 36 = .ok (.getfield 7, 3) := by decide +kernel
theorem dX4_pass_39 : decode cX4_pass 39 = .ok (.iconst 3, 1) := by decide +kernel
theorem dX4_pass_40 : decode cX4_pass 40 = .ok (.dup2, 1) := by decide +kernel
theorem dX4_pass_41 : decode cX4_pass 41 = .ok (.iaload, 1) := by decide +kernel
theorem dX4_pass_42 : decode cX4_pass 42 = .ok (.iload_n 1, 1) := by decide +kernel
theorem dX4_pass_43 : decode cX4_pass 43 = .ok (.iadd, 1) := by decide +kernel
theorem dX4_pass_44 : decode cX4_pass 44 = .ok (.iastore, 1) := by decide +kernel
theorem dX4_pass_45 : decode cX4_pass 45 = .ok (.aload_n 0, 1) := by decide +kernel
theorem dX4_pass_46 : decode cX4_pass 46 = .ok (.invokevirtual 96, 3) := by decide +kernel
theorem dX4_pass_49 : decode cX4_pass 49 = .ok (.invokestatic 100, 3) := by decide +kernel
theorem dX4_pass_52 : decode cX4_pass 52 = .ok (.ireturn, 1) := by decide +kernel
set_option maxRecDepth 20000 in
theorem ggX4_correct_X4_in : GoodIn wsX4_correct wsX4_in := goodIn_r _ [6] (by decide +kernel) (by decide +kernel)
set_option maxRecDepth 20000 in
theorem gX4_correct_X4_in : GoodIn wsX4_correct (va_wsS RX4 38 yX4_in wsX4_in) := goodIn_app (goodIn_of _ (by decide +kernel)) ggX4_correct_X4_in
set_option maxRecDepth 20000 in
theorem ggX4_correct_X4_changes : GoodIn wsX4_correct wsX4_changes := goodIn_r _ [10, 11, 12, 2, 13, 14, 15, 16, 17, 18, 19, 20, 21, 22] (by decide +kernel) (by decide +kernel)
set_option maxRecDepth 20000 in
theorem gX4_correct_X4_changes : GoodIn wsX4_correct (wsV RX4 82 RX4 yX4_changes wsX4_changes) := goodIn_app (goodIn_of _ (by decide +kernel)) ggX4_correct_X4_changes
theorem dX4_correct_0 : decode cX4_correct 0 = .ok (.iload_n 1, 1) := by decide +kernel
theorem dX4_correct_1 : decode cX4_correct 1 = .ok (.i2l, 1) := by decide +kernel
theorem dX4_correct_2 : decode cX4_correct 2 = .ok (.lconst 0, 1) := by decide +kernel
theorem dX4_correct_3 : decode cX4_correct 3 = .ok (.ldc2_w 93, 3) := by decide +kernel
theorem dX4_correct_6 : decode cX4_correct 6 = .ok (.invokestatic 38, 3) := by decide +kernel
theorem dX4_correct_9 : decode cX4_correct 9 = .ok (.ifCond .ne 6, 3) := by decide +kernel
theorem dX4_correct_12 : decode cX4_correct 12 = .ok (.bipush (-2), 2) := by decide +kernel
theorem dX4_correct_14 : decode cX4_correct 14 = .ok (.ireturn, 1) := by decide +kernel
theorem dX4_correct_15 : decode cX4_correct 15 = .ok (.aload_n 0, 1) := by decide +kernel
theorem dX4_correct_16 : decode cX4_correct 16 = .ok (.invokevirtual 82, 3) := by decide +kernel
theorem dX4_correct_19 : decode cX4_correct 19 = .ok (.aload_n 0, 1) := by decide +kernel
theorem dX4_correct_20 : decode cX4_correct 20 = .ok (.getfield 7, 3) := by decide +kernel
theorem dX4_correct_23 : decode cX4_correct 23 = .ok (.iconst 4, 1) := by decide +kernel
theorem dX4_correct_24 : decode cX4_correct 24 = .ok (.iaload, 1) := by decide +kernel
theorem dX4_correct_25 : decode cX4_correct 25 = .ok (.istore_n 2, 1) := by decide +kernel
theorem dX4_correct_26 : decode cX4_correct 26 = .ok (.aload_n 0, 1) := by decide +kernel
theorem dX4_correct_27 : decode cX4_correct 27 = .ok (.getfield 7, 3) := by decide +kernel
theorem dX4_correct_30 : decode cX4_correct 30 = .ok (.iconst 4, 1) := by decide +kernel
theorem dX4_correct_31 : decode cX4_correct 31 = .ok (.iload_n 1, 1) := by decide +kernel
theorem dX4_correct_32 : decode cX4_correct 32 = .ok (.iastore, 1) := by decide +kernel
theorem dX4_correct_33 : decode cX4_correct 33 = .ok (.aload_n 0, 1) := by decide +kernel
theorem dX4_correct_34 : decode cX4_correct 34 = .ok (.getfield 7, 3) := by decide +kernel
theorem dX4_correct_37 : decode cX4_correct 37 = .ok (.iconst 5, 1) := by decide +kernel
theorem dX4_correct_38 : decode cX4_correct 38 = .ok (.iload_n 1, 1) := by decide +kernel
theorem dX4_correct_39 : decode cX4_correct 39 = .ok (.aload_n 0, 1) := by decide +kernel
theorem dX4_correct_40 : decode cX4_correct 40 = .ok (.getfield 7, 3) := by decide +kernel
theorem dX4_correct_43 : decode cX4_correct 43 = .ok (.iconst 5, 1) := by decide +kernel
theorem dX4_correct_44 : decode cX4_correct 44 = .ok (.iaload, 1) := by decide +kernel
theorem dX4_correct_45 : decode cX4_correct 45 = .ok (.if_icmp .le 7, 3) := by decide +kernel
theorem dX4_correct_48 : decode cX4_correct 48 = .ok (.iload_n 1, 1) := by decide +kernel
theorem dX4_correct_49 : decode cX4_correct 49 = .ok (.goto 9, 3) := by decide +kernel
theorem dX4_correct_52 : decode cX4_correct 52 = .ok (.aload_n 0, 1) := by decide +kernel
theorem dX4_correct_53 : decode cX4_correct 53 = .ok (.getfield 7, 3) := by decide +kernel
theorem dX4_correct_56 : decode cX4_correct 56 = .ok (.iconst 5, 1) := by decide +kernel
theorem dX4_correct_57 : decode cX4_correct 57 = .ok (.iaload, 1) := by decide +kernel
theorem dX4_correct_58 : decode cX4_correct 58 = .ok (.iastore, 1) := by decide +kernel
theorem dX4_correct_59 : decode cX4_correct 59 = .ok (.iload_n 2, 1) := by decide +kernel
theorem dX4_correct_60 : decode cX4_correct 60 = .ok (.ireturn, 1) := by decide +kernel
set_option maxRecDepth 20000 in
theorem ggX4_clear_X4_isGate : GoodIn wsX4_clear wsX4_isGate := goodIn_r _ [4, 5, 6, 7, 3, 8] (by decide +kernel) (by decide +kernel)
set_option maxRecDepth 20000 in
theorem gX4_clear_X4_isGate : GoodIn wsX4_clear (va_wsS RX4 85 yX4_isGate wsX4_isGate) := goodIn_app (goodIn_of _ (by decide +kernel)) ggX4_clear_X4_isGate
set_option maxRecDepth 20000 in
theorem ggX4_clear_X4_isUnderWay : GoodIn wsX4_clear wsX4_isUnderWay := goodIn_r _ [12, 13, 14, 15, 3, 16, 17, 52, 53, 54, 55, 56, 57, 58, 59, 60, 61] (by decide +kernel) (by decide +kernel)
set_option maxRecDepth 20000 in
theorem gX4_clear_X4_isUnderWay : GoodIn wsX4_clear (wsV RX4 46 RX4 yX4_isUnderWay wsX4_isUnderWay) := goodIn_app (goodIn_of _ (by decide +kernel)) ggX4_clear_X4_isUnderWay
set_option maxRecDepth 20000 in
theorem ggX4_clear_X4_changes : GoodIn wsX4_clear wsX4_changes := goodIn_r _ [21, 22, 23, 17, 52, 53, 54, 55, 56, 57, 58, 59, 60, 61] (by decide +kernel) (by decide +kernel)
set_option maxRecDepth 20000 in
theorem gX4_clear_X4_changes : GoodIn wsX4_clear (wsV RX4 82 RX4 yX4_changes wsX4_changes) := goodIn_app (goodIn_of _ (by decide +kernel)) ggX4_clear_X4_changes
set_option maxRecDepth 20000 in
theorem ggX4_clear_X4_get : GoodIn wsX4_clear wsX4_get := goodIn_r _ [16, 17, 52, 53, 54, 55, 56, 57, 58, 59, 60, 61] (by decide +kernel) (by decide +kernel)
set_option maxRecDepth 20000 in
theorem gX4_clear_X4_get : GoodIn wsX4_clear (wsV RX4 42 RX4 yX4_get wsX4_get) := goodIn_app (goodIn_of _ (by decide +kernel)) ggX4_clear_X4_get
set_option maxRecDepth 20000 in
theorem ggX4_clear_X4_ends : GoodIn wsX4_clear wsX4_ends := goodIn_r _ [27, 28, 29, 30, 3, 31, 17, 32, 33, 34, 35, 9, 10, 11, 12, 13, 14, 15, 16, 36, 37, 38, 39, 40, 41, 42, 43, 44, 45, 46, 47, 48, 49, 50, 51, 52, 53, 54, 55, 56, 57, 58, 59, 60, 61] (by decide +kernel) (by decide +kernel)
set_option maxRecDepth 20000 in
theorem gX4_clear_X4_ends : GoodIn wsX4_clear (wsV RX4 69 RX4 yX4_ends wsX4_ends) := goodIn_app (goodIn_of _ (by decide +kernel)) ggX4_clear_X4_ends
theorem dX4_clear_0 : decode cX4_clear 0 = .ok (.iload_n 1, 1) := by decide +kernel
theorem dX4_clear_1 : decode cX4_clear 1 = .ok (.invokestatic 85, 3) := by decide +kernel
theorem dX4_clear_4 : decode cX4_clear 4 = .ok (.ifCond .ne 5, 3) := by decide +kernel
theorem dX4_clear_7 : decode cX4_clear 7 = .ok (.iconst (-1), 1) := by decide +kernel
theorem dX4_clear_8 : decode cX4_clear 8 = .ok (.ireturn, 1) := by decide +kernel
theorem dX4_clear_9 : decode cX4_clear 9 = .ok (.aload_n 0, 1) := by decide +kernel
theorem dX4_clear_10 : decode cX4_clear 10 = .ok (.iload_n 1, 1) := by decide +kernel
theorem dX4_clear_11 : decode cX4_clear 11 = .ok (.invokevirtual 46, 3) := by decide +kernel
theorem dX4_clear_14 : decode cX4_clear 14 = .ok (.ifCond .ne 6, 3) := by decide +kernel
theorem dX4_clear_17 : decode cX4_clear 17 = .ok (.bipush (-5), 2) := by decide +kernel
theorem dX4_clear_19 : decode cX4_clear 19 = .ok (.ireturn, 1) := by decide +kernel
theorem dX4_clear_20 : decode cX4_clear 20 = .ok (.aload_n 0, 1) := by decide +kernel
theorem dX4_clear_21 : decode cX4_clear 21 = .ok (.invokevirtual 82, 3) := by decide +kernel
theorem dX4_clear_24 : decode cX4_clear 24 = .ok (.aload_n 0, 1) := by decide +kernel
theorem dX4_clear_25 : decode cX4_clear 25 = .ok (.iload_n 1, 1) := by decide +kernel
theorem dX4_clear_26 : decode cX4_clear 26 = .ok (.iconst 0, 1) := by decide +kernel
theorem dX4_clear_27 : decode cX4_clear 27 = .ok (.invokevirtual 42, 3) := by decide +kernel
theorem dX4_clear_30 : decode cX4_clear 30 = .ok (.istore_n 2, 1) := by decide +kernel
theorem dX4_clear_31 : decode cX4_clear 31 = .ok (.aload_n 0, 1) := by decide +kernel
theorem dX4_clear_32 : decode cX4_clear 32 = .ok (.iload_n 1, 1) := by decide +kernel
theorem dX4_clear_33 : decode cX4_clear 33 = .ok (.bipush 7, 2) := by decide +kernel
theorem dX4_clear_35 : decode cX4_clear 35 = .ok (.invokevirtual 69, 3) := by decide +kernel
theorem dX4_clear_38 : decode cX4_clear 38 = .ok (.iload_n 2, 1) := by decide +kernel
theorem dX4_clear_39 : decode cX4_clear 39 = .ok (.ireturn, 1) := by decide +kernel
set_option maxRecDepth 20000 in
theorem ggX4_placeOf_X4_isUnderWay : GoodIn wsX4_placeOf wsX4_isUnderWay := goodIn_r _ [5, 6, 7, 8, 4, 9, 10, 11, 12, 13, 14, 15, 16, 17, 18, 19, 20] (by decide +kernel) (by decide +kernel)
set_option maxRecDepth 20000 in
theorem gX4_placeOf_X4_isUnderWay : GoodIn wsX4_placeOf (wsV RX4 46 RX4 yX4_isUnderWay wsX4_isUnderWay) := goodIn_app (goodIn_of _ (by decide +kernel)) ggX4_placeOf_X4_isUnderWay
set_option maxRecDepth 20000 in
theorem ggX4_placeOf_X4_get : GoodIn wsX4_placeOf wsX4_get := goodIn_r _ [9, 10, 11, 12, 13, 14, 15, 16, 17, 18, 19, 20] (by decide +kernel) (by decide +kernel)
set_option maxRecDepth 20000 in
theorem gX4_placeOf_X4_get : GoodIn wsX4_placeOf (wsV RX4 42 RX4 yX4_get wsX4_get) := goodIn_app (goodIn_of _ (by decide +kernel)) ggX4_placeOf_X4_get
theorem dX4_placeOf_0 : decode cX4_placeOf 0 = .ok (.aload_n 0, 1) := by decide +kernel
theorem dX4_placeOf_1 : decode cX4_placeOf 1 = .ok (.iload_n 1, 1) := by decide +kernel
theorem dX4_placeOf_2 : decode cX4_placeOf 2 = .ok (.invokevirtual 46, 3) := by decide +kernel
theorem dX4_placeOf_5 : decode cX4_placeOf 5 = .ok (.ifCond .eq 24, 3) := by decide +kernel
theorem dX4_placeOf_8 : decode cX4_placeOf 8 = .ok (.aload_n 0, 1) := by decide +kernel
theorem dX4_placeOf_9 : decode cX4_placeOf 9 = .ok (.iload_n 1, 1) := by decide +kernel
theorem dX4_placeOf_10 : decode cX4_placeOf 10 = .ok (.iconst 3, 1) := by decide +kernel
theorem dX4_placeOf_11 : decode cX4_placeOf 11 = .ok (.invokevirtual 42, 3) := by decide +kernel
theorem dX4_placeOf_14 : decode cX4_placeOf 14 = .ok (.iconst 1, 1) := by decide +kernel
theorem dX4_placeOf_15 : decode cX4_placeOf 15 = .ok (.if_icmp .ne 14, 3) := by decide +kernel
theorem dX4_placeOf_18 : decode cX4_placeOf 18 = .ok (.aload_n 0, 1) := by decide +kernel
theorem dX4_placeOf_19 : decode cX4_placeOf 19 = .ok (.iload_n 1, 1) := by decide +kernel
theorem dX4_placeOf_20 : decode cX4_placeOf 20 = .ok (.iconst 2, 1) := by decide +kernel
theorem dX4_placeOf_21 : decode cX4_placeOf 21 = .ok (.invokevirtual 42, 3) := by decide +kernel
theorem dX4_placeOf_24 : decode cX4_placeOf 24 = .ok (.iconst 4, 1) := by decide +kernel
theorem dX4_placeOf_25 : decode cX4_placeOf 25 = .ok (.iadd, 1) := by decide +kernel
theorem dX4_placeOf_26 : decode cX4_placeOf 26 = .ok (.goto 5, 3) := by decide +kernel
theorem dX4_placeOf_29 : decode cX4_placeOf 29 = .ok (.bipush (-6), 2) := by decide +kernel
theorem dX4_placeOf_31 : decode cX4_placeOf 31 = .ok (.ireturn, 1) := by decide +kernel
set_option maxRecDepth 20000 in
theorem ggX4_gate_X4_isGate : GoodIn wsX4_gate wsX4_isGate := goodIn_r _ [4, 5, 6, 7, 3, 8] (by decide +kernel) (by decide +kernel)
set_option maxRecDepth 20000 in
theorem gX4_gate_X4_isGate : GoodIn wsX4_gate (va_wsS RX4 85 yX4_isGate wsX4_isGate) := goodIn_app (goodIn_of _ (by decide +kernel)) ggX4_gate_X4_isGate
set_option maxRecDepth 20000 in
theorem ggX4_gate_X4_get : GoodIn wsX4_gate wsX4_get := goodIn_r _ [12, 13, 26, 27, 28, 29, 30, 31, 32, 33, 34, 35] (by decide +kernel) (by decide +kernel)
set_option maxRecDepth 20000 in
theorem gX4_gate_X4_get : GoodIn wsX4_gate (wsV RX4 42 RX4 yX4_get wsX4_get) := goodIn_app (goodIn_of _ (by decide +kernel)) ggX4_gate_X4_get
set_option maxRecDepth 20000 in
theorem ggX4_gate_X4_placeOf : GoodIn wsX4_gate wsX4_placeOf := goodIn_r _ [17, 18, 19, 20, 3, 21, 9, 10, 11, 12, 13, 26, 27, 28, 29, 30, 31, 32, 33, 34, 35] (by decide +kernel) (by decide +kernel)
set_option maxRecDepth 20000 in
theorem gX4_gate_X4_placeOf : GoodIn wsX4_gate (wsV RX4 104 RX4 yX4_placeOf wsX4_placeOf) := goodIn_app (goodIn_of _ (by decide +kernel)) ggX4_gate_X4_placeOf
set_option maxRecDepth 20000 in
theorem ggX4_gate_X4_isUnderWay : GoodIn wsX4_gate wsX4_isUnderWay := goodIn_r _ [21, 9, 10, 11, 3, 12, 13, 26, 27, 28, 29, 30, 31, 32, 33, 34, 35] (by decide +kernel) (by decide +kernel)
set_option maxRecDepth 20000 in
theorem gX4_gate_X4_isUnderWay : GoodIn wsX4_gate (wsV RX4 46 RX4 yX4_isUnderWay wsX4_isUnderWay) := goodIn_app (goodIn_of _ (by decide +kernel)) ggX4_gate_X4_isUnderWay
set_option maxRecDepth 20000 in
theorem ggX4_gate_X4_isBlocked : GoodIn wsX4_gate wsX4_isBlocked := goodIn_r _ [25, 13, 18, 19, 20, 3, 21, 9, 10, 11, 12, 26, 27, 28, 29, 30, 31, 32, 33, 34, 35] (by decide +kernel) (by decide +kernel)
set_option maxRecDepth 20000 in
theorem gX4_gate_X4_isBlocked : GoodIn wsX4_gate (wsV RX4 59 RX4 yX4_isBlocked wsX4_isBlocked) := goodIn_app (goodIn_of _ (by decide +kernel)) ggX4_gate_X4_isBlocked
theorem dX4_gate_0 : decode cX4_gate 0 = .ok (.iload_n 1, 1) := by decide +kernel
theorem dX4_gate_1 : decode cX4_gate 1 = .ok (.invokestatic 85, 3) := by decide +kernel
theorem dX4_gate_4 : decode cX4_gate 4 = .ok (.ifCond .ne 5, 3) := by decide +kernel
theorem dX4_gate_7 : decode cX4_gate 7 = .ok (.iconst (-1), 1) := by decide +kernel
theorem dX4_gate_8 : decode cX4_gate 8 = .ok (.ireturn, 1) := by decide +kernel
theorem dX4_gate_9 : decode cX4_gate 9 = .ok (.iload_n 2, 1) := by decide +kernel
theorem dX4_gate_10 : decode cX4_gate 10 = .ok (.tableswitch 124 0 12 #[66, 66, 73, 79, 99, 113, 113, 113, 113, 113, 113, 113, 113], 66) := by decide +kernel
theorem dX4_gate_76 : decode cX4_gate 76 = .ok (.aload_n 0, 1) := by decide +kernel
theorem dX4_gate_77 : decode cX4_gate 77 = .ok (.iload_n 1, 1) := by decide +kernel
theorem dX4_gate_78 : decode cX4_gate 78 = .ok (.iload_n 2, 1) := by decide +kernel
theorem dX4_gate_79 : decode cX4_gate 79 = .ok (.invokevirtual 42, 3) := by decide +kernel
theorem dX4_gate_82 : decode cX4_gate 82 = .ok (.ireturn, 1) := by decide +kernel
theorem dX4_gate_83 : decode cX4_gate 83 = .ok (.aload_n 0, 1) := by decide +kernel
theorem dX4_gate_84 : decode cX4_gate 84 = .ok (.iload_n 1, 1) := by decide +kernel
theorem dX4_gate_85 : decode cX4_gate 85 = .ok (.invokevirtual 104, 3) := by decide +kernel
theorem dX4_gate_88 : decode cX4_gate 88 = .ok (.ireturn, 1) := by decide +kernel
theorem dX4_gate_89 : decode cX4_gate 89 = .ok (.aload_n 0, 1) := by decide +kernel
theorem dX4_gate_90 : decode cX4_gate 90 = .ok (.iload_n 1, 1) := by decide +kernel
theorem dX4_gate_91 : decode cX4_gate 91 = .ok (.invokevirtual 46, 3) := by decide +kernel
theorem dX4_gate_94 : decode cX4_gate 94 = .ok (.ifCond .eq 12, 3) := by decide +kernel
theorem dX4_gate_97 : decode cX4_gate 97 = .ok (.aload_n 0, 1) := by decide +kernel
theorem dX4_gate_98 : decode cX4_gate 98 = .ok (.iload_n 1, 1) := by decide +kernel
theorem dX4_gate_99 : decode cX4_gate 99 = .ok (.iconst 3, 1) := by decide +kernel
theorem dX4_gate_100 : decode cX4_gate 100 = .ok (.invokevirtual 42, 3) := by decide +kernel
theorem dX4_gate_103 : decode cX4_gate 103 = .ok (.goto 5, 3) := by decide +kernel
theorem dX4_gate_106 : decode cX4_gate 106 = .ok (.bipush (-6), 2) := by decide +kernel
theorem dX4_gate_108 : decode cX4_gate 108 = .ok (.ireturn, 1) := by decide +kernel
theorem dX4_gate_109 : decode cX4_gate 109 = .ok (.aload_n 0, 1) := by decide +kernel
theorem dX4_gate_110 : decode cX4_gate 110 = .ok (.iload_n 1, 1) := by decide +kernel
theorem dX4_gate_111 : decode cX4_gate 111 = .ok (.invokevirtual 59, 3) := by decide +kernel
theorem dX4_gate_114 : decode cX4_gate 114 = .ok (.ifCond .eq 7, 3) := by decide +kernel
theorem dX4_gate_117 : decode cX4_gate 117 = .ok (.iconst 1, 1) := by decide +kernel
theorem dX4_gate_118 : decode cX4_gate 118 = .ok (.goto 4, 3) := by decide +kernel
theorem dX4_gate_121 : decode cX4_gate 121 = .ok (.iconst 0, 1) := by decide +kernel
theorem dX4_gate_122 : decode cX4_gate 122 = .ok (.ireturn, 1) := by decide +kernel
theorem dX4_gate_123 : decode cX4_gate 123 = .ok (.aload_n 0, 1) := by decide +kernel
theorem dX4_gate_124 : decode cX4_gate 124 = .ok (.iload_n 1, 1) := by decide +kernel
theorem dX4_gate_125 : decode cX4_gate 125 = .ok (.iconst 4, 1) := by decide +kernel
theorem dX4_gate_126 : decode cX4_gate 126 = .ok (.iload_n 2, 1) := by decide +kernel
theorem dX4_gate_127 : decode cX4_gate 127 = .ok (.iadd, 1) := by decide +kernel
theorem dX4_gate_128 : decode cX4_gate 128 = .ok (.iconst 5, 1) := by decide +kernel
theorem dX4_gate_129 : decode cX4_gate 129 = .ok (.isub, 1) := by decide +kernel
theorem dX4_gate_130 : decode cX4_gate 130 = .ok (.invokevirtual 42, 3) := by decide +kernel
theorem dX4_gate_133 : decode cX4_gate 133 = .ok (.ireturn, 1) := by decide +kernel
theorem dX4_gate_134 : decode cX4_gate 134 = .ok (.bipush (-2), 2) := by decide +kernel
theorem dX4_gate_136 : decode cX4_gate 136 = .ok (.ireturn, 1) := by decide +kernel
set_option maxRecDepth 20000 in
theorem ggX4_underWay_X4_isUnderWay : GoodIn wsX4_underWay wsX4_isUnderWay := goodIn_r _ [5, 6, 7, 8, 4, 9, 10, 11, 12, 13, 14, 15, 16, 17, 18, 19, 20] (by decide +kernel) (by decide +kernel)
set_option maxRecDepth 20000 in
theorem gX4_underWay_X4_isUnderWay : GoodIn wsX4_underWay (wsV RX4 46 RX4 yX4_isUnderWay wsX4_isUnderWay) := goodIn_app (goodIn_of _ (by decide +kernel)) ggX4_underWay_X4_isUnderWay
theorem dX4_underWay_0 : decode cX4_underWay 0 = .ok (.iconst 0, 1) := by decide +kernel
theorem dX4_underWay_1 : decode cX4_underWay 1 = .ok (.istore_n 1, 1) := by decide +kernel
theorem dX4_underWay_2 : decode cX4_underWay 2 = .ok (.iconst 0, 1) := by decide +kernel
theorem dX4_underWay_3 : decode cX4_underWay 3 = .ok (.istore_n 2, 1) := by decide +kernel
theorem dX4_underWay_4 : decode cX4_underWay 4 = .ok (.iload_n 2, 1) := by decide +kernel
theorem dX4_underWay_5 : decode cX4_underWay 5 = .ok (.bipush 6, 2) := by decide +kernel
theorem dX4_underWay_7 : decode cX4_underWay 7 = .ok (.if_icmp .ge 27, 3) := by decide +kernel
theorem dX4_underWay_10 : decode cX4_underWay 10 = .ok (.iload_n 1, 1) := by decide +kernel
theorem dX4_underWay_11 : decode cX4_underWay 11 = .ok (.aload_n 0, 1) := by decide +kernel
theorem dX4_underWay_12 : decode cX4_underWay 12 = .ok (.iload_n 2, 1) := by decide +kernel
theorem dX4_underWay_13 : decode cX4_underWay 13 = .ok (.invokevirtual 46, 3) := by decide +kernel
theorem dX4_underWay_16 : decode cX4_underWay 16 = .ok (.ifCond .eq 9, 3) := by decide +kernel
theorem dX4_underWay_19 : decode cX4_underWay 19 = .ok (.iconst 1, 1) := by decide +kernel
theorem dX4_underWay_20 : decode cX4_underWay 20 = .ok (.iload_n 2, 1) := by decide +kernel
theorem dX4_underWay_21 : decode cX4_underWay 21 = .ok (.ishl, 1) := by decide +kernel
theorem dX4_underWay_22 : decode cX4_underWay 22 = .ok (.goto 4, 3) := by decide +kernel
theorem dX4_underWay_25 : decode cX4_underWay 25 = .ok (.iconst 0, 1) := by decide +kernel
theorem dX4_underWay_26 : decode cX4_underWay 26 = .ok (.ior, 1) := by decide +kernel
theorem dX4_underWay_27 : decode cX4_underWay 27 = .ok (.istore_n 1, 1) := by decide +kernel
theorem dX4_underWay_28 : decode cX4_underWay 28 = .ok (.iinc 2 1, 3) := by decide +kernel
theorem dX4_underWay_31 : decode cX4_underWay 31 = .ok (.goto (-27), 3) := by decide +kernel
theorem dX4_underWay_34 : decode cX4_underWay 34 = .ok (.iload_n 1, 1) := by decide +kernel
theorem dX4_underWay_35 : decode cX4_underWay 35 = .ok (.ireturn, 1) := by decide +kernel
set_option maxRecDepth 20000 in
theorem ggX4_count_X4_in : GoodIn wsX4_count wsX4_in := goodIn_r _ [10] (by decide +kernel) (by decide +kernel)
set_option maxRecDepth 20000 in
theorem gX4_count_X4_in : GoodIn wsX4_count (va_wsS RX4 38 yX4_in wsX4_in) := goodIn_app (goodIn_of _ (by decide +kernel)) ggX4_count_X4_in
set_option maxRecDepth 20000 in
theorem ggX4_count_X4_allOf : GoodIn wsX4_count wsX4_allOf := goodIn_r _ [14, 15, 16, 17, 9, 18, 2, 35, 36, 37, 38, 39, 40, 41, 42, 43, 44] (by decide +kernel) (by decide +kernel)
set_option maxRecDepth 20000 in
theorem gX4_count_X4_allOf : GoodIn wsX4_count (wsV RX4 113 RX4 yX4_allOf wsX4_allOf) := goodIn_app (goodIn_of _ (by decide +kernel)) ggX4_count_X4_allOf
set_option maxRecDepth 20000 in
theorem ggX4_count_X4_blocked : GoodIn wsX4_count wsX4_blocked := goodIn_r _ [22, 23, 24, 25, 9, 26, 2, 27, 28, 29, 30, 15, 16, 17, 18, 35, 36, 37, 38, 39, 40, 41, 42, 43, 44] (by decide +kernel) (by decide +kernel)
set_option maxRecDepth 20000 in
theorem gX4_count_X4_blocked : GoodIn wsX4_count (wsV RX4 96 RX4 yX4_blocked wsX4_blocked) := goodIn_app (goodIn_of _ (by decide +kernel)) ggX4_count_X4_blocked
set_option maxRecDepth 20000 in
theorem ggX4_count_X4_underWay : GoodIn wsX4_count wsX4_underWay := goodIn_r _ [34, 27, 28, 29, 9, 30, 15, 16, 17, 18, 2, 35, 36, 37, 38, 39, 40, 41, 42, 43, 44] (by decide +kernel) (by decide +kernel)
set_option maxRecDepth 20000 in
theorem gX4_count_X4_underWay : GoodIn wsX4_count (wsV RX4 116 RX4 yX4_underWay wsX4_underWay) := goodIn_app (goodIn_of _ (by decide +kernel)) ggX4_count_X4_underWay
theorem dX4_count_0 : decode cX4_count 0 = .ok (.iload_n 1, 1) := by decide +kernel
theorem dX4_count_1 : decode cX4_count 1 = .ok (.i2l, 1) := by decide +kernel
theorem dX4_count_2 : decode cX4_count 2 = .ok (.lconst 0, 1) := by decide +kernel
theorem dX4_count_3 : decode cX4_count 3 = .ok (.ldc2_w 107, 3) := by decide +kernel
theorem dX4_count_6 : decode cX4_count 6 = .ok (.invokestatic 38, 3) := by decide +kernel
theorem dX4_count_9 : decode cX4_count 9 = .ok (.ifCond .eq 10, 3) := by decide +kernel
theorem dX4_count_12 : decode cX4_count 12 = .ok (.aload_n 0, 1) := by decide +kernel
theorem dX4_count_13 : decode cX4_count 13 = .ok (.getfield 7, 3) := by decide +kernel
theorem dX4_count_16 : decode cX4_count 16 = .ok (.iload_n 1, 1) := by decide +kernel
theorem dX4_count_17 : decode cX4_count 17 = .ok (.iaload, 1) := by decide +kernel
theorem dX4_count_18 : decode cX4_count 18 = .ok (.ireturn, 1) := by decide +kernel
theorem dX4_count_19 : decode cX4_count 19 = .ok (.iload_n 1, 1) := by decide +kernel
theorem dX4_count_20 : decode cX4_count 20 = .ok (.i2l, 1) := by decide +kernel
theorem dX4_count_21 : decode cX4_count 21 = .ok (.ldc2_w 109, 3) := by decide +kernel
theorem dX4_count_24 : decode cX4_count 24 = .ok (.ldc2_w 111, 3) := by decide +kernel
theorem dX4_count_27 : decode cX4_count 27 = .ok (.invokestatic 38, 3) := by decide +kernel
theorem dX4_count_30 : decode cX4_count 30 = .ok (.ifCond .eq 14, 3) := by decide +kernel
theorem dX4_count_33 : decode cX4_count 33 = .ok (.aload_n 0, 1) := by decide +kernel
theorem dX4_count_34 : decode cX4_count 34 = .ok (.iconst 4, 1) := by decide +kernel
theorem dX4_count_35 : decode cX4_count 35 = .ok (.iload_n 1, 1) := by decide +kernel
theorem dX4_count_36 : decode cX4_count 36 = .ok (.iadd, 1) := by decide +kernel
theorem dX4_count_37 : decode cX4_count 37 = .ok (.bipush 8, 2) := by decide +kernel
theorem dX4_count_39 : decode cX4_count 39 = .ok (.isub, 1) := by decide +kernel
theorem dX4_count_40 : decode cX4_count 40 = .ok (.invokevirtual 113, 3) := by decide +kernel
theorem dX4_count_43 : decode cX4_count 43 = .ok (.ireturn, 1) := by decide +kernel
theorem dX4_count_44 : decode cX4_count 44 = .ok (.iload_n 1, 1) := by decide +kernel
theorem dX4_count_45 : decode cX4_count 45 = .ok (.bipush 14, 2) := by decide +kernel
theorem dX4_count_47 : decode cX4_count 47 = .ok (.if_icmp .ne 10, 3) := by decide +kernel
theorem dX4_count_50 : decode cX4_count 50 = .ok (.aload_n 0, 1) := by decide +kernel
theorem dX4_count_51 : decode cX4_count 51 = .ok (.invokevirtual 96, 3) := by decide +kernel
theorem dX4_count_54 : decode cX4_count 54 = .ok (.goto 44, 3) := by decide +kernel
theorem dX4_count_57 : decode cX4_count 57 = .ok (.iload_n 1, 1) := by decide +kernel
theorem dX4_count_58 : decode cX4_count 58 = .ok (.bipush 15, 2) := by decide +kernel
theorem dX4_count_60 : decode cX4_count 60 = .ok (.if_icmp .ne 10, 3) := by decide +kernel
theorem dX4_count_63 : decode cX4_count 63 = .ok (.aload_n 0, 1) := by decide +kernel
theorem dX4_count_64 : decode cX4_count 64 = .ok (.invokevirtual 116, 3) := by decide +kernel
theorem dX4_count_67 : decode cX4_count 67 = .ok (.goto 31, 3) := by decide +kernel
theorem dX4_count_70 : decode cX4_count 70 = .ok (.iload_n 1, 1) := by decide +kernel
theorem dX4_count_71 : decode cX4_count 71 = .ok (.bipush 16, 2) := by decide +kernel
theorem dX4_count_73 : decode cX4_count 73 = .ok (.if_icmp .ne 10, 3) := by decide +kernel
theorem dX4_count_76 : decode cX4_count 76 = .ok (.aload_n 0, 1) := by decide +kernel
theorem dX4_count_77 : decode cX4_count 77 = .ok (.getfield 119, 3) := by decide +kernel
theorem dX4_count_80 : decode cX4_count 80 = .ok (.goto 18, 3) := by decide +kernel
theorem dX4_count_83 : decode cX4_count 83 = .ok (.iload_n 1, 1) := by decide +kernel
theorem dX4_count_84 : decode cX4_count 84 = .ok (.bipush 17, 2) := by decide +kernel
theorem dX4_count_86 : decode cX4_count 86 = .ok (.if_icmp .ne 10, 3) := by decide +kernel
theorem dX4_count_89 : decode cX4_count 89 = .ok (.aload_n 0, 1) := by decide +kernel
theorem dX4_count_90 : decode cX4_count 90 = .ok (.getfield 32, 3) := by decide +kernel
theorem dX4_count_93 : decode cX4_count 93 = .ok (.goto 5, 3) := by decide +kernel
theorem dX4_count_96 : decode cX4_count 96 = .ok (.bipush (-2), 2) := by decide +kernel
theorem dX4_count_98 : decode cX4_count 98 = .ok (.ireturn, 1) := by decide +kernel
set_option maxRecDepth 20000 in
theorem ggX4_through_X4_get : GoodIn wsX4_through wsX4_get := goodIn_r _ [5, 6, 7, 8, 9, 10, 11, 12, 13, 14, 15, 16] (by decide +kernel) (by decide +kernel)
set_option maxRecDepth 20000 in
theorem gX4_through_X4_get : GoodIn wsX4_through (wsV RX4 42 RX4 yX4_get wsX4_get) := goodIn_app (goodIn_of _ (by decide +kernel)) ggX4_through_X4_get
theorem dX4_through_0 : decode cX4_through 0 = .ok (.aload_n 0, 1) := by decide +kernel
theorem dX4_through_1 : decode cX4_through 1 = .ok (.iload_n 1, 1) := by decide +kernel
theorem dX4_through_2 : decode cX4_through 2 = .ok (.iconst 4, 1) := by decide +kernel
theorem dX4_through_3 : decode cX4_through 3 = .ok (.invokevirtual 42, 3) := by decide +kernel
theorem dX4_through_6 : decode cX4_through 6 = .ok (.aload_n 0, 1) := by decide +kernel
theorem dX4_through_7 : decode cX4_through 7 = .ok (.iload_n 1, 1) := by decide +kernel
theorem dX4_through_8 : decode cX4_through 8 = .ok (.iconst 5, 1) := by decide +kernel
theorem dX4_through_9 : decode cX4_through 9 = .ok (.invokevirtual 42, 3) := by decide +kernel
theorem dX4_through_12 : decode cX4_through 12 = .ok (.iadd, 1) := by decide +kernel
theorem dX4_through_13 : decode cX4_through 13 = .ok (.ireturn, 1) := by decide +kernel
set_option maxRecDepth 20000 in
theorem ggX4_mean_X4_isGate : GoodIn wsX4_mean wsX4_isGate := goodIn_r _ [4, 5, 6, 7, 3, 8] (by decide +kernel) (by decide +kernel)
set_option maxRecDepth 20000 in
theorem gX4_mean_X4_isGate : GoodIn wsX4_mean (va_wsS RX4 85 yX4_isGate wsX4_isGate) := goodIn_app (goodIn_of _ (by decide +kernel)) ggX4_mean_X4_isGate
set_option maxRecDepth 20000 in
theorem ggX4_mean_X4_through : GoodIn wsX4_mean wsX4_through := goodIn_r _ [12, 13, 14, 15, 3, 16, 17, 18, 19, 20, 21, 22, 23, 24, 25, 26, 27] (by decide +kernel) (by decide +kernel)
set_option maxRecDepth 20000 in
theorem gX4_mean_X4_through : GoodIn wsX4_mean (wsV RX4 122 RX4 yX4_through wsX4_through) := goodIn_app (goodIn_of _ (by decide +kernel)) ggX4_mean_X4_through
set_option maxRecDepth 20000 in
theorem ggX4_mean_X4_get : GoodIn wsX4_mean wsX4_get := goodIn_r _ [16, 17, 18, 19, 20, 21, 22, 23, 24, 25, 26, 27] (by decide +kernel) (by decide +kernel)
set_option maxRecDepth 20000 in
theorem gX4_mean_X4_get : GoodIn wsX4_mean (wsV RX4 42 RX4 yX4_get wsX4_get) := goodIn_app (goodIn_of _ (by decide +kernel)) ggX4_mean_X4_get
theorem dX4_mean_0 : decode cX4_mean 0 = .ok (.iload_n 1, 1) := by decide +kernel
theorem dX4_mean_1 : decode cX4_mean 1 = .ok (.invokestatic 85, 3) := by decide +kernel
theorem dX4_mean_4 : decode cX4_mean 4 = .ok (.ifCond .ne 7, 3) := by decide +kernel
theorem dX4_mean_7 : decode cX4_mean 7 = .ok (.iconst (-1), 1) := by decide +kernel
theorem dX4_mean_8 : decode cX4_mean 8 = .ok (.goto 29, 3) := by decide +kernel
theorem dX4_mean_11 : decode cX4_mean 11 = .ok (.aload_n 0, 1) := by decide +kernel
theorem dX4_mean_12 : decode cX4_mean 12 = .ok (.iload_n 1, 1) := by decide +kernel
theorem dX4_mean_13 : decode cX4_mean 13 = .ok (.invokevirtual 122, 3) := by decide +kernel
theorem dX4_mean_16 : decode cX4_mean 16 = .ok (.ifCond .ne 8, 3) := by decide +kernel
theorem dX4_mean_19 : decode cX4_mean 19 = .ok (.bipush (-6), 2) := by decide +kernel
theorem dX4_mean_21 : decode cX4_mean 21 = .ok (.goto 16, 3) := by decide +kernel
theorem dX4_mean_24 : decode cX4_mean 24 = .ok (.aload_n 0, 1) := by decide +kernel
theorem dX4_mean_25 : decode cX4_mean 25 = .ok (.iload_n 1, 1) := by decide +kernel
theorem dX4_mean_26 : decode cX4_mean 26 = .ok (.bipush 10, 2) := by decide +kernel
theorem dX4_mean_28 : decode cX4_mean 28 = .ok (.invokevirtual 42, 3) := by decide +kernel
theorem dX4_mean_31 : decode cX4_mean 31 = .ok (.aload_n 0, 1) := by decide +kernel
theorem dX4_mean_32 : decode cX4_mean 32 = .ok (.iload_n 1, 1) := by decide +kernel
theorem dX4_mean_33 : decode cX4_mean 33 = .ok (.invokevirtual 122, 3) := by decide +kernel
theorem dX4_mean_36 : decode cX4_mean 36 = .ok (.idiv, 1) := by decide +kernel
theorem dX4_mean_37 : decode cX4_mean 37 = .ok (.ireturn, 1) := by decide +kernel
set_option maxRecDepth 20000 in
theorem ggX4_busiest_X4_through : GoodIn wsX4_busiest wsX4_through := goodIn_r _ [5, 6, 7, 8, 4, 9, 10, 11, 12, 13, 14, 15, 16, 17, 18, 19, 20] (by decide +kernel) (by decide +kernel)
set_option maxRecDepth 20000 in
theorem gX4_busiest_X4_through : GoodIn wsX4_busiest (wsV RX4 122 RX4 yX4_through wsX4_through) := goodIn_app (goodIn_of _ (by decide +kernel)) ggX4_busiest_X4_through
theorem dX4_busiest_0 : decode cX4_busiest 0 = .ok (.bipush (-6), 2) := by decide +kernel
theorem dX4_busiest_2 : decode cX4_busiest 2 = .ok (.istore_n 1, 1) := by decide +kernel
theorem dX4_busiest_3 : decode cX4_busiest 3 = .ok (.iconst 0, 1) := by decide +kernel
theorem dX4_busiest_4 : decode cX4_busiest 4 = .ok (.istore_n 2, 1) := by decide +kernel
theorem dX4_busiest_5 : decode cX4_busiest 5 = .ok (.iconst 0, 1) := by decide +kernel
theorem dX4_busiest_6 : decode cX4_busiest 6 = .ok (.istore_n 3, 1) := by decide +kernel
theorem dX4_busiest_7 : decode cX4_busiest 7 = .ok (.iload_n 3, 1) := by decide +kernel
theorem dX4_busiest_8 : decode cX4_busiest 8 = .ok (.bipush 6, 2) := by decide +kernel
theorem dX4_busiest_10 : decode cX4_busiest 10 = .ok (.if_icmp .ge 43, 3) := by decide +kernel
theorem dX4_busiest_13 : decode cX4_busiest 13 = .ok (.aload_n 0, 1) := by decide +kernel
theorem dX4_busiest_14 : decode cX4_busiest 14 = .ok (.iload_n 3, 1) := by decide +kernel
theorem dX4_busiest_15 : decode cX4_busiest 15 = .ok (.invokevirtual 122, 3) := by decide +kernel
theorem dX4_busiest_18 : decode cX4_busiest 18 = .ok (.iload_n 2, 1) := by decide +kernel
theorem dX4_busiest_19 : decode cX4_busiest 19 = .ok (.if_icmp .le 7, 3) := by decide +kernel
theorem dX4_busiest_22 : decode cX4_busiest 22 = .ok (.iload_n 3, 1) := by decide +kernel
theorem dX4_busiest_23 : decode cX4_busiest 23 = .ok (.goto 4, 3) := by decide +kernel
theorem dX4_busiest_26 : decode cX4_busiest 26 = .ok (.iload_n 1, 1) := by decide +kernel
theorem dX4_busiest_27 : decode cX4_busiest 27 = .ok (.istore_n 1, 1) := by decide +kernel
theorem dX4_busiest_28 : decode cX4_busiest 28 = .ok (.aload_n 0, 1) := by decide +kernel
theorem dX4_busiest_29 : decode cX4_busiest 29 = .ok (.iload_n 3, 1) := by decide +kernel
theorem dX4_busiest_30 : decode cX4_busiest 30 = .ok (.invokevirtual 122, 3) := by decide +kernel
theorem dX4_busiest_33 : decode cX4_busiest 33 = .ok (.iload_n 2, 1) := by decide +kernel
theorem dX4_busiest_34 : decode cX4_busiest 34 = .ok (.if_icmp .le 11, 3) := by decide +kernel
theorem dX4_busiest_37 : decode cX4_busiest 37 = .ok (.aload_n 0, 1) := by decide +kernel
theorem dX4_busiest_38 : decode cX4_busiest 38 = .ok (.iload_n 3, 1) := by decide +kernel
theorem dX4_busiest_39 : decode cX4_busiest 39 = .ok (.invokevirtual 122, 3) := by decide +kernel
theorem dX4_busiest_42 : decode cX4_busiest 42 = .ok (.goto 4, 3) := by decide +kernel
theorem dX4_busiest_45 : decode cX4_busiest 45 = .ok (.iload_n 2, 1) := by decide +kernel
theorem dX4_busiest_46 : decode cX4_busiest 46 = .ok (.istore_n 2, 1) := by decide +kernel
theorem dX4_busiest_47 : decode cX4_busiest 47 = .ok (.iinc 3 1, 3) := by decide +kernel
theorem dX4_busiest_50 : decode cX4_busiest 50 = .ok (.goto (-43), 3) := by decide +kernel
theorem dX4_busiest_53 : decode cX4_busiest 53 = .ok (.iload_n 1, 1) := by decide +kernel
theorem dX4_busiest_54 : decode cX4_busiest 54 = .ok (.ireturn, 1) := by decide +kernel
set_option maxRecDepth 20000 in
theorem ggX4_ifRead_X4_fault : GoodIn wsX4_ifRead wsX4_fault := goodIn_r _ [7, 8, 9, 10, 11, 12, 6, 13, 14, 15, 16, 17, 18, 19, 20, 21, 22, 23, 24, 25, 26, 27, 28, 29, 30, 31, 32, 33, 34, 96, 97, 98, 99, 100, 101, 102, 103, 104, 105] (by decide +kernel) (by decide +kernel)
set_option maxRecDepth 20000 in
theorem gX4_ifRead_X4_fault : GoodIn wsX4_ifRead (wsV RX4 125 RX4 yX4_fault wsX4_fault) := goodIn_app (goodIn_of _ (by decide +kernel)) ggX4_ifRead_X4_fault
set_option maxRecDepth 20000 in
theorem ggX4_ifRead_X4_in : GoodIn wsX4_ifRead wsX4_in := goodIn_r _ [25] (by decide +kernel) (by decide +kernel)
set_option maxRecDepth 20000 in
theorem gX4_ifRead_X4_in : GoodIn wsX4_ifRead (va_wsS RX4 38 yX4_in wsX4_in) := goodIn_app (goodIn_of _ (by decide +kernel)) ggX4_ifRead_X4_in
set_option maxRecDepth 20000 in
theorem ggX4_ifRead_X4_allOf : GoodIn wsX4_ifRead wsX4_allOf := goodIn_r _ [38, 39, 40, 41, 6, 42, 2, 96, 97, 98, 99, 100, 101, 102, 103, 104, 105] (by decide +kernel) (by decide +kernel)
set_option maxRecDepth 20000 in
theorem gX4_ifRead_X4_allOf : GoodIn wsX4_ifRead (wsV RX4 113 RX4 yX4_allOf wsX4_allOf) := goodIn_app (goodIn_of _ (by decide +kernel)) ggX4_ifRead_X4_allOf
set_option maxRecDepth 20000 in
theorem ggX4_ifRead_X4_keeps : GoodIn wsX4_ifRead wsX4_keeps := goodIn_r _ [46, 47, 2, 96, 97, 98, 99, 100, 101, 102, 103, 104, 105] (by decide +kernel) (by decide +kernel)
set_option maxRecDepth 20000 in
theorem gX4_ifRead_X4_keeps : GoodIn wsX4_ifRead (wsV RX4 128 RX4 yX4_keeps wsX4_keeps) := goodIn_app (goodIn_of _ (by decide +kernel)) ggX4_ifRead_X4_keeps
set_option maxRecDepth 20000 in
theorem ggX4_ifRead_X4_reads : GoodIn wsX4_ifRead wsX4_reads := goodIn_r _ [51, 8, 2, 30, 52, 22, 14, 15, 16, 6, 17, 18, 19, 20, 21, 9, 23, 24, 25, 26, 27, 28, 29, 31, 32, 33, 34, 53, 54, 55, 56, 39, 40, 41, 42, 57, 58, 59, 60, 61, 62, 63, 64, 65, 66, 67, 68, 69, 70, 71, 72, 73, 74, 75, 76, 77, 78, 79, 80, 81, 82, 83, 84, 85, 86, 87, 88, 89, 90, 91, 96, 97, 98, 99, 100, 101, 102, 103, 104, 105] (by decide +kernel) (by decide +kernel)
set_option maxRecDepth 20000 in
theorem gX4_ifRead_X4_reads : GoodIn wsX4_ifRead (wsV RX4 131 RX4 yX4_reads wsX4_reads) := goodIn_app (goodIn_of _ (by decide +kernel)) ggX4_ifRead_X4_reads
set_option maxRecDepth 20000 in
theorem ggX4_ifRead_X4_comesBack : GoodIn wsX4_ifRead wsX4_comesBack := goodIn_r _ [95, 2, 47, 96, 97, 98, 99, 100, 101, 102, 103, 104, 105] (by decide +kernel) (by decide +kernel)
set_option maxRecDepth 20000 in
theorem gX4_ifRead_X4_comesBack : GoodIn wsX4_ifRead (wsV RX4 134 RX4 yX4_comesBack wsX4_comesBack) := goodIn_app (goodIn_of _ (by decide +kernel)) ggX4_ifRead_X4_comesBack
theorem dX4_ifRead_0 : decode cX4_ifRead 0 = .ok (.aload_n 0, 1) := by decide +kernel
theorem dX4_ifRead_1 : decode cX4_ifRead 1 = .ok (.invokevirtual 125, 3) := by decide +kernel
theorem dX4_ifRead_4 : decode cX4_ifRead 4 = .ok (.bipush (-6), 2) := by decide +kernel
theorem dX4_ifRead_6 : decode cX4_ifRead 6 = .ok (.if_icmp .eq 6, 3) := by decide +kernel
theorem dX4_ifRead_9 : decode cX4_ifRead 9 = .ok (.bipush (-3), 2) := by decide +kernel
theorem dX4_ifRead_11 : decode cX4_ifRead 11 = .ok (.ireturn, 1) := by decide +kernel
theorem dX4_ifRead_12 : decode cX4_ifRead 12 = .ok (.iload_n 1, 1) := by decide +kernel
theorem dX4_ifRead_13 : decode cX4_ifRead 13 = .ok (.i2l, 1) := by decide +kernel
theorem dX4_ifRead_14 : decode cX4_ifRead 14 = .ok (.lconst 0, 1) := by decide +kernel
theorem dX4_ifRead_15 : decode cX4_ifRead 15 = .ok (.ldc2_w 36, 3) := by decide +kernel
theorem dX4_ifRead_18 : decode cX4_ifRead 18 = .ok (.invokestatic 38, 3) := by decide +kernel
theorem dX4_ifRead_21 : decode cX4_ifRead 21 = .ok (.ifCond .ne 6, 3) := by decide +kernel
theorem dX4_ifRead_24 : decode cX4_ifRead 24 = .ok (.bipush (-2), 2) := by decide +kernel
theorem dX4_ifRead_26 : decode cX4_ifRead 26 = .ok (.ireturn, 1) := by decide +kernel
theorem dX4_ifRead_27 : decode cX4_ifRead 27 = .ok (.iload_n 1, 1) := by decide +kernel
theorem dX4_ifRead_28 : decode cX4_ifRead 28 = .ok (.iconst 4, 1) := by decide +kernel
theorem dX4_ifRead_29 : decode cX4_ifRead 29 = .ok (.if_icmp .ge 13, 3) := by decide +kernel
theorem dX4_ifRead_32 : decode cX4_ifRead 32 = .ok (.aload_n 0, 1) := by decide +kernel
theorem dX4_ifRead_33 : decode cX4_ifRead 33 = .ok (.iconst 4, 1) := by decide +kernel
theorem dX4_ifRead_34 : decode cX4_ifRead 34 = .ok (.iload_n 1, 1) := by decide +kernel
theorem dX4_ifRead_35 : decode cX4_ifRead 35 = .ok (.iadd, 1) := by decide +kernel
theorem dX4_ifRead_36 : decode cX4_ifRead 36 = .ok (.invokevirtual 113, 3) := by decide +kernel
theorem dX4_ifRead_39 : decode cX4_ifRead 39 = .ok (.goto 19, 3) := by decide +kernel
theorem dX4_ifRead_42 : decode cX4_ifRead 42 = .ok (.iload_n 1, 1) := by decide +kernel
theorem dX4_ifRead_43 : decode cX4_ifRead 43 = .ok (.iconst 4, 1) := by decide +kernel
theorem dX4_ifRead_44 : decode cX4_ifRead 44 = .ok (.if_icmp .ne 7, 3) := by decide +kernel
theorem dX4_ifRead_47 : decode cX4_ifRead 47 = .ok (.iconst 0, 1) := by decide +kernel
theorem dX4_ifRead_48 : decode cX4_ifRead 48 = .ok (.goto 10, 3) := by decide +kernel
theorem dX4_ifRead_51 : decode cX4_ifRead 51 = .ok (.aload_n 0, 1) := by decide +kernel
theorem dX4_ifRead_52 : decode cX4_ifRead 52 = .ok (.getfield 7, 3) := by decide +kernel
theorem dX4_ifRead_55 : decode cX4_ifRead 55 = .ok (.bipush 6, 2) := by decide +kernel
theorem dX4_ifRead_57 : decode cX4_ifRead 57 = .ok (.iaload, 1) := by decide +kernel
theorem dX4_ifRead_58 : decode cX4_ifRead 58 = .ok (.istore_n 2, 1) := by decide +kernel
theorem dX4_ifRead_59 : decode cX4_ifRead 59 = .ok (.aload_n 0, 1) := by decide +kernel
theorem dX4_ifRead_60 : decode cX4_ifRead 60 = .ok (.invokevirtual 128, 3) := by decide +kernel
theorem dX4_ifRead_63 : decode cX4_ifRead 63 = .ok (.aload_n 0, 1) := by decide +kernel
theorem dX4_ifRead_64 : decode cX4_ifRead 64 = .ok (.invokevirtual 131, 3) := by decide +kernel
theorem dX4_ifRead_67 : decode cX4_ifRead 67 = .ok (.istore_n 3, 1) := by decide +kernel
theorem dX4_ifRead_68 : decode cX4_ifRead 68 = .ok (.iload_n 1, 1) := by decide +kernel
theorem dX4_ifRead_69 : decode cX4_ifRead 69 = .ok (.iconst 4, 1) := by decide +kernel
theorem dX4_ifRead_70 : decode cX4_ifRead 70 = .ok (.if_icmp .ge 13, 3) := by decide +kernel
theorem dX4_ifRead_73 : decode cX4_ifRead 73 = .ok (.aload_n 0, 1) := by decide +kernel
theorem dX4_ifRead_74 : decode cX4_ifRead 74 = .ok (.iconst 4, 1) := by decide +kernel
theorem dX4_ifRead_75 : decode cX4_ifRead 75 = .ok (.iload_n 1, 1) := by decide +kernel
theorem dX4_ifRead_76 : decode cX4_ifRead 76 = .ok (.iadd, 1) := by decide +kernel
theorem dX4_ifRead_77 : decode cX4_ifRead 77 = .ok (.invokevirtual 113, 3) := by decide +kernel
theorem dX4_ifRead_80 : decode cX4_ifRead 80 = .ok (.goto 24, 3) := by decide +kernel
theorem dX4_ifRead_83 : decode cX4_ifRead 83 = .ok (.iload_n 1, 1) := by decide +kernel
theorem dX4_ifRead_84 : decode cX4_ifRead 84 = .ok (.iconst 4, 1) := by decide +kernel
theorem dX4_ifRead_85 : decode cX4_ifRead 85 = .ok (.if_icmp .ne 12, 3) := by decide +kernel
theorem dX4_ifRead_88 : decode cX4_ifRead 88 = .ok (.aload_n 0, 1) := by decide +kernel
theorem dX4_ifRead_89 : decode cX4_ifRead 89 = .ok (.getfield 7, 3) := by decide +kernel
theorem dX4_ifRead_92 : decode cX4_ifRead 92 = .ok (.iconst 4, 1) := by decide +kernel
theorem dX4_ifRead_93 : decode cX4_ifRead 93 = .ok (.iaload, 1) := by decide +kernel
theorem dX4_ifRead_94 : decode cX4_ifRead 94 = .ok (.goto 10, 3) := by decide +kernel
theorem dX4_ifRead_97 : decode cX4_ifRead 97 = .ok (.aload_n 0, 1) := by decide +kernel
theorem dX4_ifRead_98 : decode cX4_ifRead 98 = .ok (.getfield 7, 3) := by decide +kernel
theorem dX4_ifRead_101 : decode cX4_ifRead 101 = .ok (.bipush 6, 2) := by decide +kernel
theorem dX4_ifRead_103 : decode cX4_ifRead 103 = .ok (.iaload, 1) := by decide +kernel
theorem dX4_ifRead_104 : decode cX4_ifRead 104 = .ok (.istore 4, 2) := by decide +kernel
theorem dX4_ifRead_106 : decode cX4_ifRead 106 = .ok (.aload_n 0, 1) := by decide +kernel
theorem dX4_ifRead_107 : decode cX4_ifRead 107 = .ok (.invokevirtual 134, 3) := by decide +kernel
theorem dX4_ifRead_110 : decode cX4_ifRead 110 = .ok (.iload 4, 2) := by decide +kernel
theorem dX4_ifRead_112 : decode cX4_ifRead 112 = .ok (.iload_n 2, 1) := by decide +kernel
theorem dX4_ifRead_113 : decode cX4_ifRead 113 = .ok (.isub, 1) := by decide +kernel
theorem dX4_ifRead_114 : decode cX4_ifRead 114 = .ok (.ireturn, 1) := by decide +kernel
set_option maxRecDepth 20000 in
theorem ggX4_eventsTo_X4_isGate : GoodIn wsX4_eventsTo wsX4_isGate := goodIn_r _ [5, 6, 7, 8, 4, 9] (by decide +kernel) (by decide +kernel)
set_option maxRecDepth 20000 in
theorem gX4_eventsTo_X4_isGate : GoodIn wsX4_eventsTo (va_wsS RX4 85 yX4_isGate wsX4_isGate) := goodIn_app (goodIn_of _ (by decide +kernel)) ggX4_eventsTo_X4_isGate
set_option maxRecDepth 20000 in
theorem ggX4_eventsTo_X4_in : GoodIn wsX4_eventsTo wsX4_in := goodIn_r _ [9] (by decide +kernel) (by decide +kernel)
set_option maxRecDepth 20000 in
theorem gX4_eventsTo_X4_in : GoodIn wsX4_eventsTo (va_wsS RX4 38 yX4_in wsX4_in) := goodIn_app (goodIn_of _ (by decide +kernel)) ggX4_eventsTo_X4_in
set_option maxRecDepth 20000 in
theorem ggX4_eventsTo_X4_isUnderWay : GoodIn wsX4_eventsTo wsX4_isUnderWay := goodIn_r _ [13, 14, 15, 16, 4, 17, 18, 19, 20, 21, 22, 23, 24, 25, 26, 27, 28] (by decide +kernel) (by decide +kernel)
set_option maxRecDepth 20000 in
theorem gX4_eventsTo_X4_isUnderWay : GoodIn wsX4_eventsTo (wsV RX4 46 RX4 yX4_isUnderWay wsX4_isUnderWay) := goodIn_app (goodIn_of _ (by decide +kernel)) ggX4_eventsTo_X4_isUnderWay
set_option maxRecDepth 20000 in
theorem ggX4_eventsTo_X4_get : GoodIn wsX4_eventsTo wsX4_get := goodIn_r _ [17, 18, 19, 20, 21, 22, 23, 24, 25, 26, 27, 28] (by decide +kernel) (by decide +kernel)
set_option maxRecDepth 20000 in
theorem gX4_eventsTo_X4_get : GoodIn wsX4_eventsTo (wsV RX4 42 RX4 yX4_get wsX4_get) := goodIn_app (goodIn_of _ (by decide +kernel)) ggX4_eventsTo_X4_get
theorem dX4_eventsTo_0 : decode cX4_eventsTo 0 = .ok (.iload_n 1, 1) := by decide +kernel
theorem dX4_eventsTo_1 : decode cX4_eventsTo 1 = .ok (.invokestatic 85, 3) := by decide +kernel
theorem dX4_eventsTo_4 : decode cX4_eventsTo 4 = .ok (.ifCond .ne 5, 3) := by decide +kernel
theorem dX4_eventsTo_7 : decode cX4_eventsTo 7 = .ok (.iconst (-1), 1) := by decide +kernel
theorem dX4_eventsTo_8 : decode cX4_eventsTo 8 = .ok (.ireturn, 1) := by decide +kernel
theorem dX4_eventsTo_9 : decode cX4_eventsTo 9 = .ok (.iload_n 2, 1) := by decide +kernel
theorem dX4_eventsTo_10 : decode cX4_eventsTo 10 = .ok (.i2l, 1) := by decide +kernel
theorem dX4_eventsTo_11 : decode cX4_eventsTo 11 = .ok (.lconst 0, 1) := by decide +kernel
theorem dX4_eventsTo_12 : decode cX4_eventsTo 12 = .ok (.ldc2_w 88, 3) := by decide +kernel
theorem dX4_eventsTo_15 : decode cX4_eventsTo 15 = .ok (.invokestatic 38, 3) := by decide +kernel
theorem dX4_eventsTo_18 : decode cX4_eventsTo 18 = .ok (.ifCond .ne 6, 3) := by decide +kernel
theorem dX4_eventsTo_21 : decode cX4_eventsTo 21 = .ok (.bipush (-2), 2) := by decide +kernel
theorem dX4_eventsTo_23 : decode cX4_eventsTo 23 = .ok (.ireturn, 1) := by decide +kernel
theorem dX4_eventsTo_24 : decode cX4_eventsTo 24 = .ok (.aload_n 0, 1) := by decide +kernel
theorem dX4_eventsTo_25 : decode cX4_eventsTo 25 = .ok (.iload_n 1, 1) := by decide +kernel
theorem dX4_eventsTo_26 : decode cX4_eventsTo 26 = .ok (.invokevirtual 46, 3) := by decide +kernel
theorem dX4_eventsTo_29 : decode cX4_eventsTo 29 = .ok (.ifCond .eq 12, 3) := by decide +kernel
theorem dX4_eventsTo_32 : decode cX4_eventsTo 32 = .ok (.aload_n 0, 1) := by decide +kernel
theorem dX4_eventsTo_33 : decode cX4_eventsTo 33 = .ok (.iload_n 1, 1) := by decide +kernel
theorem dX4_eventsTo_34 : decode cX4_eventsTo 34 = .ok (.iconst 3, 1) := by decide +kernel
theorem dX4_eventsTo_35 : decode cX4_eventsTo 35 = .ok (.invokevirtual 42, 3) := by decide +kernel
theorem dX4_eventsTo_38 : decode cX4_eventsTo 38 = .ok (.ifCond .ne 6, 3) := by decide +kernel
theorem dX4_eventsTo_41 : decode cX4_eventsTo 41 = .ok (.bipush (-5), 2) := by decide +kernel
theorem dX4_eventsTo_43 : decode cX4_eventsTo 43 = .ok (.ireturn, 1) := by decide +kernel
theorem dX4_eventsTo_44 : decode cX4_eventsTo 44 = .ok (.aload_n 0, 1) := by decide +kernel
theorem dX4_eventsTo_45 : decode cX4_eventsTo 45 = .ok (.iload_n 1, 1) := by decide +kernel
theorem dX4_eventsTo_46 : decode cX4_eventsTo 46 = .ok (.iconst 2, 1) := by decide +kernel
theorem dX4_eventsTo_47 : decode cX4_eventsTo 47 = .ok (.invokevirtual 42, 3) := by decide +kernel
theorem dX4_eventsTo_50 : decode cX4_eventsTo 50 = .ok (.istore_n 3, 1) := by decide +kernel
theorem dX4_eventsTo_51 : decode cX4_eventsTo 51 = .ok (.iload_n 2, 1) := by decide +kernel
theorem dX4_eventsTo_52 : decode cX4_eventsTo 52 = .ok (.iconst 2, 1) := by decide +kernel
theorem dX4_eventsTo_53 : decode cX4_eventsTo 53 = .ok (.if_icmp .ne 14, 3) := by decide +kernel
theorem dX4_eventsTo_56 : decode cX4_eventsTo 56 = .ok (.iload_n 3, 1) := by decide +kernel
theorem dX4_eventsTo_57 : decode cX4_eventsTo 57 = .ok (.ifCond .ge 8, 3) := by decide +kernel
theorem dX4_eventsTo_60 : decode cX4_eventsTo 60 = .ok (.iload_n 3, 1) := by decide +kernel
theorem dX4_eventsTo_61 : decode cX4_eventsTo 61 = .ok (.ineg, 1) := by decide +kernel
theorem dX4_eventsTo_62 : decode cX4_eventsTo 62 = .ok (.goto 4, 3) := by decide +kernel
theorem dX4_eventsTo_65 : decode cX4_eventsTo 65 = .ok (.iload_n 3, 1) := by decide +kernel
theorem dX4_eventsTo_66 : decode cX4_eventsTo 66 = .ok (.ireturn, 1) := by decide +kernel
theorem dX4_eventsTo_67 : decode cX4_eventsTo 67 = .ok (.iload_n 2, 1) := by decide +kernel
theorem dX4_eventsTo_68 : decode cX4_eventsTo 68 = .ok (.ifCond .ne 9, 3) := by decide +kernel
theorem dX4_eventsTo_71 : decode cX4_eventsTo 71 = .ok (.iconst 4, 1) := by decide +kernel
theorem dX4_eventsTo_72 : decode cX4_eventsTo 72 = .ok (.iload_n 3, 1) := by decide +kernel
theorem dX4_eventsTo_73 : decode cX4_eventsTo 73 = .ok (.isub, 1) := by decide +kernel
theorem dX4_eventsTo_74 : decode cX4_eventsTo 74 = .ok (.goto 6, 3) := by decide +kernel
theorem dX4_eventsTo_77 : decode cX4_eventsTo 77 = .ok (.iconst 4, 1) := by decide +kernel
theorem dX4_eventsTo_78 : decode cX4_eventsTo 78 = .ok (.iload_n 3, 1) := by decide +kernel
theorem dX4_eventsTo_79 : decode cX4_eventsTo 79 = .ok (.iadd, 1) := by decide +kernel
theorem dX4_eventsTo_80 : decode cX4_eventsTo 80 = .ok (.istore 4, 2) := by decide +kernel
theorem dX4_eventsTo_82 : decode cX4_eventsTo 82 = .ok (.iload 4, 2) := by decide +kernel
theorem dX4_eventsTo_84 : decode cX4_eventsTo 84 = .ok (.iconst 4, 1) := by decide +kernel
theorem dX4_eventsTo_85 : decode cX4_eventsTo 85 = .ok (.if_icmp .ge 8, 3) := by decide +kernel
theorem dX4_eventsTo_88 : decode cX4_eventsTo 88 = .ok (.iload 4, 2) := by decide +kernel
theorem dX4_eventsTo_90 : decode cX4_eventsTo 90 = .ok (.goto 5, 3) := by decide +kernel
theorem dX4_eventsTo_93 : decode cX4_eventsTo 93 = .ok (.bipush (-6), 2) := by decide +kernel
theorem dX4_eventsTo_95 : decode cX4_eventsTo 95 = .ok (.ireturn, 1) := by decide +kernel
set_option maxRecDepth 20000 in
theorem ggX4_untilBlocked_X4_get : GoodIn wsX4_untilBlocked wsX4_get := goodIn_r _ [6, 1, 11, 12, 13, 14, 15, 16, 17, 18, 19, 20] (by decide +kernel) (by decide +kernel)
set_option maxRecDepth 20000 in
theorem gX4_untilBlocked_X4_get : GoodIn wsX4_untilBlocked (wsV RX4 42 RX4 yX4_get wsX4_get) := goodIn_app (goodIn_of _ (by decide +kernel)) ggX4_untilBlocked_X4_get
set_option maxRecDepth 20000 in
theorem ggX4_untilBlocked_X4_isUnderWay : GoodIn wsX4_untilBlocked wsX4_isUnderWay := goodIn_r _ [10, 2, 3, 4, 5, 6, 1, 11, 12, 13, 14, 15, 16, 17, 18, 19, 20] (by decide +kernel) (by decide +kernel)
set_option maxRecDepth 20000 in
theorem gX4_untilBlocked_X4_isUnderWay : GoodIn wsX4_untilBlocked (wsV RX4 46 RX4 yX4_isUnderWay wsX4_isUnderWay) := goodIn_app (goodIn_of _ (by decide +kernel)) ggX4_untilBlocked_X4_isUnderWay
theorem dX4_untilBlocked_0 : decode cX4_untilBlocked 0 = .ok (.bipush (-6), 2) := by decide +kernel
theorem dX4_untilBlocked_2 : decode cX4_untilBlocked 2 = .ok (.istore_n 1, 1) := by decide +kernel
theorem dX4_untilBlocked_3 : decode cX4_untilBlocked 3 = .ok (.iconst 0, 1) := by decide +kernel
theorem dX4_untilBlocked_4 : decode cX4_untilBlocked 4 = .ok (.istore_n 2, 1) := by decide +kernel
theorem dX4_untilBlocked_5 : decode cX4_untilBlocked 5 = .ok (.iload_n 2, 1) := by decide +kernel
theorem dX4_untilBlocked_6 : decode cX4_untilBlocked 6 = .ok (.bipush 6, 2) := by decide +kernel
theorem dX4_untilBlocked_8 : decode cX4_untilBlocked 8 = .ok (.if_icmp .ge 71, 3) := by decide +kernel
theorem dX4_untilBlocked_11 : decode cX4_untilBlocked 11 = .ok (.aload_n 0, 1) := by decide +kernel
theorem dX4_untilBlocked_12 : decode cX4_untilBlocked 12 = .ok (.getfield 7, 3) := by decide +kernel
theorem dX4_untilBlocked_15 : decode cX4_untilBlocked 15 = .ok (.iconst 0, 1) := by decide +kernel
theorem dX4_untilBlocked_16 : decode cX4_untilBlocked 16 = .ok (.iaload, 1) := by decide +kernel
theorem dX4_untilBlocked_17 : decode cX4_untilBlocked 17 = .ok (.aload_n 0, 1) := by decide +kernel
theorem dX4_untilBlocked_18 : decode cX4_untilBlocked 18 = .ok (.getfield 7, 3) := by decide +kernel
theorem dX4_untilBlocked_21 : decode cX4_untilBlocked 21 = .ok (.iconst 3, 1) := by decide +kernel
theorem dX4_untilBlocked_22 : decode cX4_untilBlocked 22 = .ok (.iaload, 1) := by decide +kernel
theorem dX4_untilBlocked_23 : decode cX4_untilBlocked 23 = .ok (.aload_n 0, 1) := by decide +kernel
theorem dX4_untilBlocked_24 : decode cX4_untilBlocked 24 = .ok (.iload_n 2, 1) := by decide +kernel
theorem dX4_untilBlocked_25 : decode cX4_untilBlocked 25 = .ok (.iconst 1, 1) := by decide +kernel
theorem dX4_untilBlocked_26 : decode cX4_untilBlocked 26 = .ok (.invokevirtual 42, 3) := by decide +kernel
theorem dX4_untilBlocked_29 : decode cX4_untilBlocked 29 = .ok (.isub, 1) := by decide +kernel
theorem dX4_untilBlocked_30 : decode cX4_untilBlocked 30 = .ok (.isub, 1) := by decide +kernel
theorem dX4_untilBlocked_31 : decode cX4_untilBlocked 31 = .ok (.istore_n 3, 1) := by decide +kernel
theorem dX4_untilBlocked_32 : decode cX4_untilBlocked 32 = .ok (.aload_n 0, 1) := by decide +kernel
theorem dX4_untilBlocked_33 : decode cX4_untilBlocked 33 = .ok (.iload_n 2, 1) := by decide +kernel
theorem dX4_untilBlocked_34 : decode cX4_untilBlocked 34 = .ok (.invokevirtual 46, 3) := by decide +kernel
theorem dX4_untilBlocked_37 : decode cX4_untilBlocked 37 = .ok (.ifCond .eq 22, 3) := by decide +kernel
theorem dX4_untilBlocked_40 : decode cX4_untilBlocked 40 = .ok (.iload_n 3, 1) := by decide +kernel
theorem dX4_untilBlocked_41 : decode cX4_untilBlocked 41 = .ok (.ifCond .le 18, 3) := by decide +kernel
theorem dX4_untilBlocked_44 : decode cX4_untilBlocked 44 = .ok (.iload_n 1, 1) := by decide +kernel
theorem dX4_untilBlocked_45 : decode cX4_untilBlocked 45 = .ok (.bipush (-6), 2) := by decide +kernel
theorem dX4_untilBlocked_47 : decode cX4_untilBlocked 47 = .ok (.if_icmp .eq 8, 3) := by decide +kernel
theorem dX4_untilBlocked_50 : decode cX4_untilBlocked 50 = .ok (.iload_n 3, 1) := by decide +kernel
theorem dX4_untilBlocked_51 : decode cX4_untilBlocked 51 = .ok (.iload_n 1, 1) := by decide +kernel
theorem dX4_untilBlocked_52 : decode cX4_untilBlocked 52 = .ok (.if_icmp .ge 7, 3) := by decide +kernel
theorem dX4_untilBlocked_55 : decode cX4_untilBlocked 55 = .ok (.iconst 1, 1) := by decide +kernel
theorem dX4_untilBlocked_56 : decode cX4_untilBlocked 56 = .ok (.goto 4, 3) := by decide +kernel
theorem dX4_untilBlocked_59 : decode cX4_untilBlocked 59 = .ok (.iconst 0, 1) := by decide +kernel
theorem dX4_untilBlocked_60 : decode cX4_untilBlocked 60 = .ok (.istore 4, 2) := by decide +kernel
theorem dX4_untilBlocked_62 : decode cX4_untilBlocked 62 = .ok (.iload 4, 2) := by decide +kernel
theorem dX4_untilBlocked_64 : decode cX4_untilBlocked 64 = .ok (.ifCond .eq 7, 3) := by decide +kernel
theorem dX4_untilBlocked_67 : decode cX4_untilBlocked 67 = .ok (.iload_n 3, 1) := by decide +kernel
theorem dX4_untilBlocked_68 : decode cX4_untilBlocked 68 = .ok (.goto 4, 3) := by decide +kernel
theorem dX4_untilBlocked_71 : decode cX4_untilBlocked 71 = .ok (.iload_n 1, 1) := by decide +kernel
theorem dX4_untilBlocked_72 : decode cX4_untilBlocked 72 = .ok (.istore_n 1, 1) := by decide +kernel
theorem dX4_untilBlocked_73 : decode cX4_untilBlocked 73 = .ok (.iinc 2 1, 3) := by decide +kernel
theorem dX4_untilBlocked_76 : decode cX4_untilBlocked 76 = .ok (.goto (-71), 3) := by decide +kernel
theorem dX4_untilBlocked_79 : decode cX4_untilBlocked 79 = .ok (.iload_n 1, 1) := by decide +kernel
theorem dX4_untilBlocked_80 : decode cX4_untilBlocked 80 = .ok (.ireturn, 1) := by decide +kernel
set_option maxRecDepth 20000 in
theorem ggX4_charactersOf_X4_in : GoodIn wsX4_charactersOf wsX4_in := goodIn_r _ [7] (by decide +kernel) (by decide +kernel)
set_option maxRecDepth 20000 in
theorem gX4_charactersOf_X4_in : GoodIn wsX4_charactersOf (va_wsS RX4 38 yX4_in wsX4_in) := goodIn_app (goodIn_of _ (by decide +kernel)) ggX4_charactersOf_X4_in
theorem dX4_charactersOf_0 : decode cX4_charactersOf 0 = .ok (.lload_n 0, 1) := by decide +kernel
theorem dX4_charactersOf_1 : decode cX4_charactersOf 1 = .ok (.lstore_n 2, 1) := by decide +kernel
theorem dX4_charactersOf_2 : decode cX4_charactersOf 2 = .ok (.iconst 0, 1) := by decide +kernel
theorem dX4_charactersOf_3 : decode cX4_charactersOf 3 = .ok (.istore 4, 2) := by decide +kernel
theorem dX4_charactersOf_5 : decode cX4_charactersOf 5 = .ok (.iload 4, 2) := by decide +kernel
theorem dX4_charactersOf_7 : decode cX4_charactersOf 7 = .ok (.bipush 8, 2) := by decide +kernel
theorem dX4_charactersOf_9 : decode cX4_charactersOf 9 = .ok (.if_icmp .ge 31, 3) := by decide +kernel
theorem dX4_charactersOf_12 : decode cX4_charactersOf 12 = .ok (.lload_n 2, 1) := by decide +kernel
theorem dX4_charactersOf_13 : decode cX4_charactersOf 13 = .ok (.ldc2_w 137, 3) := by decide +kernel
theorem dX4_charactersOf_16 : decode cX4_charactersOf 16 = .ok (.land, 1) := by decide +kernel
theorem dX4_charactersOf_17 : decode cX4_charactersOf 17 = .ok (.ldc2_w 139, 3) := by decide +kernel
theorem dX4_charactersOf_20 : decode cX4_charactersOf 20 = .ok (.ldc2_w 141, 3) := by decide +kernel
theorem dX4_charactersOf_23 : decode cX4_charactersOf 23 = .ok (.invokestatic 38, 3) := by decide +kernel
theorem dX4_charactersOf_26 : decode cX4_charactersOf 26 = .ok (.ifCond .eq 14, 3) := by decide +kernel
theorem dX4_charactersOf_29 : decode cX4_charactersOf 29 = .ok (.lload_n 2, 1) := by decide +kernel
theorem dX4_charactersOf_30 : decode cX4_charactersOf 30 = .ok (.bipush 8, 2) := by decide +kernel
theorem dX4_charactersOf_32 : decode cX4_charactersOf 32 = .ok (.lushr, 1) := by decide +kernel
theorem dX4_charactersOf_33 : decode cX4_charactersOf 33 = .ok (.lstore_n 2, 1) := by decide +kernel
theorem dX4_charactersOf_34 : decode cX4_charactersOf 34 = .ok (.iinc 4 1, 3) := by decide +kernel
theorem dX4_charactersOf_37 : decode cX4_charactersOf 37 = .ok (.goto (-32), 3) := by decide +kernel
theorem dX4_charactersOf_40 : decode cX4_charactersOf 40 = .ok (.lload_n 2, 1) := by decide +kernel
theorem dX4_charactersOf_41 : decode cX4_charactersOf 41 = .ok (.lconst 0, 1) := by decide +kernel
theorem dX4_charactersOf_42 : decode cX4_charactersOf 42 = .ok (.lcmp, 1) := by decide +kernel
theorem dX4_charactersOf_43 : decode cX4_charactersOf 43 = .ok (.ifCond .ne 8, 3) := by decide +kernel
theorem dX4_charactersOf_46 : decode cX4_charactersOf 46 = .ok (.iload 4, 2) := by decide +kernel
theorem dX4_charactersOf_48 : decode cX4_charactersOf 48 = .ok (.goto 4, 3) := by decide +kernel
theorem dX4_charactersOf_51 : decode cX4_charactersOf 51 = .ok (.iconst 0, 1) := by decide +kernel
theorem dX4_charactersOf_52 : decode cX4_charactersOf 52 = .ok (.ireturn, 1) := by decide +kernel
set_option maxRecDepth 20000 in
theorem ggX4_put_X4_charactersOf : GoodIn wsX4_put wsX4_charactersOf := goodIn_r _ [7, 3, 8, 9, 10, 11, 6, 12] (by decide +kernel) (by decide +kernel)
set_option maxRecDepth 20000 in
theorem gX4_put_X4_charactersOf : GoodIn wsX4_put (va_wsS RX4 143 yX4_charactersOf wsX4_charactersOf) := goodIn_app (goodIn_of _ (by decide +kernel)) ggX4_put_X4_charactersOf
theorem dX4_put_0 : decode cX4_put 0 = .ok (.lload_n 1, 1) := by decide +kernel
theorem dX4_put_1 : decode cX4_put 1 = .ok (.invokestatic 143, 3) := by decide +kernel
theorem dX4_put_4 : decode cX4_put 4 = .ok (.istore_n 3, 1) := by decide +kernel
theorem dX4_put_5 : decode cX4_put 5 = .ok (.iload_n 3, 1) := by decide +kernel
theorem dX4_put_6 : decode cX4_put 6 = .ok (.ifCond .ne 6, 3) := by decide +kernel
theorem dX4_put_9 : decode cX4_put 9 = .ok (.bipush (-2), 2) := by decide +kernel
theorem dX4_put_11 : decode cX4_put 11 = .ok (.ireturn, 1) := by decide +kernel
theorem dX4_put_12 : decode cX4_put 12 = .ok (.aload_n 0, 1) := by decide +kernel
theorem dX4_put_13 : decode cX4_put 13 = .ok (.getfield 119, 3) := by decide +kernel
theorem dX4_put_16 : decode cX4_put 16 = .ok (.iload_n 3, 1) := by decide +kernel
theorem dX4_put_17 : decode cX4_put 17 = .ok (.iadd, 1) := by decide +kernel
theorem dX4_put_18 : decode cX4_put 18 = .ok (.bipush 60, 2) := by decide +kernel
theorem dX4_put_20 : decode cX4_put 20 = .ok (.if_icmp .le 6, 3) := by decide +kernel
theorem dX4_put_23 : decode cX4_put 23 = .ok (.bipush (-4), 2) := by decide +kernel
theorem dX4_put_25 : decode cX4_put 25 = .ok (.ireturn, 1) := by decide +kernel
theorem dX4_put_26 : decode cX4_put 26 = .ok (.iconst 0, 1) := by decide +kernel
theorem dX4_put_27 : decode cX4_put 27 = .ok (.istore 4, 2) := by decide +kernel
theorem dX4_put_29 : decode cX4_put 29 = .ok (.iload 4, 2) := by decide +kernel
theorem dX4_put_31 : decode cX4_put 31 = .ok (.iload_n 3, 1) := by decide +kernel
theorem dX4_put_32 : decode cX4_put 32 = .ok (.if_icmp .ge 37, 3) := by decide +kernel
theorem dX4_put_35 : decode cX4_put 35 = .ok (.aload_n 0, 1) := by decide +kernel
theorem dX4_put_36 : decode cX4_put 36 = .ok (.getfield 25, 3) := by decide +kernel
theorem dX4_put_39 : decode cX4_put 39 = .ok (.aload_n 0, 1) := by decide +kernel
theorem dX4_put_40 : decode cX4_put 40 = .ok (.getfield 119, 3) := by decide +kernel
theorem dX4_put_43 : decode cX4_put 43 = .ok (.iload 4, 2) := by decide +kernel
theorem dX4_put_45 : decode cX4_put 45 = .ok (.iadd, 1) := by decide +kernel
theorem dX4_put_46 : decode cX4_put 46 = .ok (.lload_n 1, 1) := by decide +kernel
theorem dX4_put_47 : decode cX4_put 47 = .ok (.bipush 8, 2) := by decide +kernel
theorem dX4_put_49 : decode cX4_put 49 = .ok (.iload_n 3, 1) := by decide +kernel
theorem dX4_put_50 : decode cX4_put 50 = .ok (.iconst 1, 1) := by decide +kernel
theorem dX4_put_51 : decode cX4_put 51 = .ok (.isub, 1) := by decide +kernel
theorem dX4_put_52 : decode cX4_put 52 = .ok (.iload 4, 2) := by decide +kernel
theorem dX4_put_54 : decode cX4_put 54 = .ok (.isub, 1) := by decide +kernel
theorem dX4_put_55 : decode cX4_put 55 = .ok (.imul, 1) := by decide +kernel
theorem dX4_put_56 : decode cX4_put 56 = .ok (.lushr, 1) := by decide +kernel
theorem dX4_put_57 : decode cX4_put 57 = .ok (.ldc2_w 137, 3) := by decide +kernel
theorem dX4_put_60 : decode cX4_put 60 = .ok (.land, 1) := by decide +kernel
theorem dX4_put_61 : decode cX4_put 61 = .ok (.l2i, 1) := by decide +kernel
theorem dX4_put_62 : decode cX4_put 62 = .ok (.iastore, 1) := by decide +kernel
theorem dX4_put_63 : decode cX4_put 63 = .ok (.iinc 4 1, 3) := by decide +kernel
theorem dX4_put_66 : decode cX4_put 66 = .ok (.goto (-37), 3) := by decide +kernel
theorem dX4_put_69 : decode cX4_put 69 = .ok (.aload_n 0, 1) := by decide +kernel
theorem dX4_put_70 : decode cX4_put 70 = .ok (.dup, 1) := by decide +kernel
theorem dX4_put_71 : decode cX4_put 71 = .ok (.getfield 119, 3) := by decide +kernel
theorem dX4_put_74 : decode cX4_put 74 = .ok (.iload_n 3, 1) := by decide +kernel
theorem dX4_put_75 : decode cX4_put 75 = .ok (.iadd, 1) := by decide +kernel
theorem dX4_put_76 : decode cX4_put 76 = .ok (.putfield 119, 3) := by decide +kernel
theorem dX4_put_79 : decode cX4_put 79 = .ok (.aload_n 0, 1) := by decide +kernel
theorem dX4_put_80 : decode cX4_put 80 = .ok (.getfield 119, 3) := by decide +kernel
theorem dX4_put_83 : decode cX4_put 83 = .ok (.ireturn, 1) := by decide +kernel
theorem dX4_wipe_0 : decode cX4_wipe 0 = .ok (.aload_n 0, 1) := by decide +kernel
theorem dX4_wipe_1 : decode cX4_wipe 1 = .ok (.getfield 119, 3) := by decide +kernel
theorem dX4_wipe_4 : decode cX4_wipe 4 = .ok (.istore_n 1, 1) := by decide +kernel
theorem dX4_wipe_5 : decode cX4_wipe 5 = .ok (.aload_n 0, 1) := by decide +kernel
theorem dX4_wipe_6 : decode cX4_wipe 6 = .ok (.iconst 0, 1) := by decide +kernel
theorem dX4_wipe_7 : decode cX4_wipe 7 = .ok (.putfield 119, 3) := by decide +kernel
theorem dX4_wipe_10 : decode cX4_wipe 10 = .ok (.iload_n 1, 1) := by decide +kernel
theorem dX4_wipe_11 : decode cX4_wipe 11 = .ok (.ireturn, 1) := by decide +kernel
set_option maxRecDepth 20000 in
theorem ggX4_isHere_X4_in : GoodIn wsX4_isHere wsX4_in := goodIn_r _ [7] (by decide +kernel) (by decide +kernel)
set_option maxRecDepth 20000 in
theorem gX4_isHere_X4_in : GoodIn wsX4_isHere (va_wsS RX4 38 yX4_in wsX4_in) := goodIn_app (goodIn_of _ (by decide +kernel)) ggX4_isHere_X4_in
theorem dX4_isHere_0 : decode cX4_isHere 0 = .ok (.aload_n 0, 1) := by decide +kernel
theorem dX4_isHere_1 : decode cX4_isHere 1 = .ok (.getfield 147, 3) := by decide +kernel
theorem dX4_isHere_4 : decode cX4_isHere 4 = .ok (.aload_n 0, 1) := by decide +kernel
theorem dX4_isHere_5 : decode cX4_isHere 5 = .ok (.getfield 119, 3) := by decide +kernel
theorem dX4_isHere_8 : decode cX4_isHere 8 = .ok (.if_icmp .ge 27, 3) := by decide +kernel
theorem dX4_isHere_11 : decode cX4_isHere 11 = .ok (.aload_n 0, 1) := by decide +kernel
theorem dX4_isHere_12 : decode cX4_isHere 12 = .ok (.getfield 25, 3) := by decide +kernel
theorem dX4_isHere_15 : decode cX4_isHere 15 = .ok (.aload_n 0, 1) := by decide +kernel
theorem dX4_isHere_16 : decode cX4_isHere 16 = .ok (.getfield 147, 3) := by decide +kernel
theorem dX4_isHere_19 : decode cX4_isHere 19 = .ok (.iaload, 1) := by decide +kernel
theorem dX4_isHere_20 : decode cX4_isHere 20 = .ok (.i2l, 1) := by decide +kernel
theorem dX4_isHere_21 : decode cX4_isHere 21 = .ok (.iload_n 1, 1) := by decide +kernel
theorem dX4_isHere_22 : decode cX4_isHere 22 = .ok (.i2l, 1) := by decide +kernel
theorem dX4_isHere_23 : decode cX4_isHere 23 = .ok (.iload_n 2, 1) := by decide +kernel
theorem dX4_isHere_24 : decode cX4_isHere 24 = .ok (.i2l, 1) := by decide +kernel
theorem dX4_isHere_25 : decode cX4_isHere 25 = .ok (.invokestatic 38, 3) := by decide +kernel
theorem dX4_isHere_28 : decode cX4_isHere 28 = .ok (.ifCond .eq 7, 3) := by decide +kernel
theorem dX4_isHere_31 : decode cX4_isHere 31 = .ok (.iconst 1, 1) := by decide +kernel
theorem dX4_isHere_32 : decode cX4_isHere 32 = .ok (.goto 4, 3) := by decide +kernel
theorem dX4_isHere_35 : decode cX4_isHere 35 = .ok (.iconst 0, 1) := by decide +kernel
theorem dX4_isHere_36 : decode cX4_isHere 36 = .ok (.ireturn, 1) := by decide +kernel
set_option maxRecDepth 20000 in
theorem ggX4_takesOne_X4_isHere : GoodIn wsX4_takesOne wsX4_isHere := goodIn_r _ [6, 1, 7, 8, 9, 10, 5, 11, 12, 13, 14, 15, 16, 17, 18, 19, 20, 21] (by decide +kernel) (by decide +kernel)
set_option maxRecDepth 20000 in
theorem gX4_takesOne_X4_isHere : GoodIn wsX4_takesOne (wsV RX4 150 RX4 yX4_isHere wsX4_isHere) := goodIn_app (goodIn_of _ (by decide +kernel)) ggX4_takesOne_X4_isHere
theorem dX4_takesOne_0 : decode cX4_takesOne 0 = .ok (.aload_n 0, 1) := by decide +kernel
theorem dX4_takesOne_1 : decode cX4_takesOne 1 = .ok (.iload_n 1, 1) := by decide +kernel
theorem dX4_takesOne_2 : decode cX4_takesOne 2 = .ok (.iload_n 1, 1) := by decide +kernel
theorem dX4_takesOne_3 : decode cX4_takesOne 3 = .ok (.invokevirtual 150, 3) := by decide +kernel
theorem dX4_takesOne_6 : decode cX4_takesOne 6 = .ok (.istore_n 2, 1) := by decide +kernel
theorem dX4_takesOne_7 : decode cX4_takesOne 7 = .ok (.aload_n 0, 1) := by decide +kernel
theorem dX4_takesOne_8 : decode cX4_takesOne 8 = .ok (.dup, 1) := by decide +kernel
theorem dX4_takesOne_9 : decode cX4_takesOne 9 = .ok (.getfield 147, 3) := by decide +kernel
theorem dX4_takesOne_12 : decode cX4_takesOne 12 = .ok (.iload_n 2, 1) := by decide +kernel
theorem dX4_takesOne_13 : decode cX4_takesOne 13 = .ok (.ifCond .eq 7, 3) := by decide +kernel
theorem dX4_takesOne_16 : decode cX4_takesOne 16 = .ok (.iconst 1, 1) := by decide +kernel
theorem dX4_takesOne_17 : decode cX4_takesOne 17 = .ok (.goto 4, 3) := by decide +kernel
theorem dX4_takesOne_20 : decode cX4_takesOne 20 = .ok (.iconst 0, 1) := by decide +kernel
theorem dX4_takesOne_21 : decode cX4_takesOne 21 = .ok (.iadd, 1) := by decide +kernel
theorem dX4_takesOne_22 : decode cX4_takesOne 22 = .ok (.putfield 147, 3) := by decide +kernel
theorem dX4_takesOne_25 : decode cX4_takesOne 25 = .ok (.iload_n 2, 1) := by decide +kernel
theorem dX4_takesOne_26 : decode cX4_takesOne 26 = .ok (.ireturn, 1) := by decide +kernel
set_option maxRecDepth 20000 in
theorem ggX4_beam_X4_takesOne : GoodIn wsX4_beam wsX4_takesOne := goodIn_r _ [5, 6, 7, 8, 9, 4, 10, 11, 12, 13, 14, 15, 16, 17, 18, 19, 20, 21, 22, 23, 24, 25] (by decide +kernel) (by decide +kernel)
set_option maxRecDepth 20000 in
theorem gX4_beam_X4_takesOne : GoodIn wsX4_beam (wsV RX4 153 RX4 yX4_takesOne wsX4_takesOne) := goodIn_app (goodIn_of _ (by decide +kernel)) ggX4_beam_X4_takesOne
theorem dX4_beam_0 : decode cX4_beam 0 = .ok (.aload_n 0, 1) := by decide +kernel
theorem dX4_beam_1 : decode cX4_beam 1 = .ok (.bipush 111, 2) := by decide +kernel
theorem dX4_beam_3 : decode cX4_beam 3 = .ok (.invokevirtual 153, 3) := by decide +kernel
theorem dX4_beam_6 : decode cX4_beam 6 = .ok (.ifCond .eq 7, 3) := by decide +kernel
theorem dX4_beam_9 : decode cX4_beam 9 = .ok (.iconst 0, 1) := by decide +kernel
theorem dX4_beam_10 : decode cX4_beam 10 = .ok (.goto 31, 3) := by decide +kernel
theorem dX4_beam_13 : decode cX4_beam 13 = .ok (.aload_n 0, 1) := by decide +kernel
theorem dX4_beam_14 : decode cX4_beam 14 = .ok (.bipush 105, 2) := by decide +kernel
theorem dX4_beam_16 : decode cX4_beam 16 = .ok (.invokevirtual 153, 3) := by decide +kernel
theorem dX4_beam_19 : decode cX4_beam 19 = .ok (.ifCond .eq 7, 3) := by decide +kernel
theorem dX4_beam_22 : decode cX4_beam 22 = .ok (.iconst 1, 1) := by decide +kernel
theorem dX4_beam_23 : decode cX4_beam 23 = .ok (.goto 18, 3) := by decide +kernel
theorem dX4_beam_26 : decode cX4_beam 26 = .ok (.aload_n 0, 1) := by decide +kernel
theorem dX4_beam_27 : decode cX4_beam 27 = .ok (.bipush 98, 2) := by decide +kernel
theorem dX4_beam_29 : decode cX4_beam 29 = .ok (.invokevirtual 153, 3) := by decide +kernel
theorem dX4_beam_32 : decode cX4_beam 32 = .ok (.ifCond .eq 7, 3) := by decide +kernel
theorem dX4_beam_35 : decode cX4_beam 35 = .ok (.iconst 2, 1) := by decide +kernel
theorem dX4_beam_36 : decode cX4_beam 36 = .ok (.goto 5, 3) := by decide +kernel
theorem dX4_beam_39 : decode cX4_beam 39 = .ok (.bipush (-6), 2) := by decide +kernel
theorem dX4_beam_41 : decode cX4_beam 41 = .ok (.ireturn, 1) := by decide +kernel
set_option maxRecDepth 20000 in
theorem ggX4_readsTicks_X4_isHere : GoodIn wsX4_readsTicks wsX4_isHere := goodIn_r _ [8, 2, 9, 1, 10, 11, 7, 12, 13, 14, 15, 16, 17, 18, 19, 20, 21, 22] (by decide +kernel) (by decide +kernel)
set_option maxRecDepth 20000 in
theorem gX4_readsTicks_X4_isHere : GoodIn wsX4_readsTicks (wsV RX4 150 RX4 yX4_isHere wsX4_isHere) := goodIn_app (goodIn_of _ (by decide +kernel)) ggX4_readsTicks_X4_isHere
theorem dX4_readsTicks_0 : decode cX4_readsTicks 0 = .ok (.aload_n 0, 1) := by decide +kernel
theorem dX4_readsTicks_1 : decode cX4_readsTicks 1 = .ok (.bipush 49, 2) := by decide +kernel
theorem dX4_readsTicks_3 : decode cX4_readsTicks 3 = .ok (.bipush 57, 2) := by decide +kernel
theorem dX4_readsTicks_5 : decode cX4_readsTicks 5 = .ok (.invokevirtual 150, 3) := by decide +kernel
theorem dX4_readsTicks_8 : decode cX4_readsTicks 8 = .ok (.ifCond .ne 5, 3) := by decide +kernel
theorem dX4_readsTicks_11 : decode cX4_readsTicks 11 = .ok (.iconst 0, 1) := by decide +kernel
theorem dX4_readsTicks_12 : decode cX4_readsTicks 12 = .ok (.ireturn, 1) := by decide +kernel
theorem dX4_readsTicks_13 : decode cX4_readsTicks 13 = .ok (.aload_n 0, 1) := by decide +kernel
theorem dX4_readsTicks_14 : decode cX4_readsTicks 14 = .ok (.aload_n 0, 1) := by decide +kernel
theorem dX4_readsTicks_15 : decode cX4_readsTicks 15 = .ok (.getfield 25, 3) := by decide +kernel
theorem dX4_readsTicks_18 : decode cX4_readsTicks 18 = .ok (.aload_n 0, 1) := by decide +kernel
theorem dX4_readsTicks_19 : decode cX4_readsTicks 19 = .ok (.getfield 147, 3) := by decide +kernel
theorem dX4_readsTicks_22 : decode cX4_readsTicks 22 = .ok (.iaload, 1) := by decide +kernel
theorem dX4_readsTicks_23 : decode cX4_readsTicks 23 = .ok (.bipush 48, 2) := by decide +kernel
theorem dX4_readsTicks_25 : decode cX4_readsTicks 25 = .ok (.isub, 1) := by decide +kernel
theorem dX4_readsTicks_26 : decode cX4_readsTicks 26 = .ok (.putfield 156, 3) := by decide +kernel
theorem dX4_readsTicks_29 : decode cX4_readsTicks 29 = .ok (.aload_n 0, 1) := by decide +kernel
theorem dX4_readsTicks_30 : decode cX4_readsTicks 30 = .ok (.dup, 1) := by decide +kernel
theorem dX4_readsTicks_31 : decode cX4_readsTicks 31 = .ok (.getfield 147, 3) := by decide +kernel
theorem dX4_readsTicks_34 : decode cX4_readsTicks 34 = .ok (.iconst 1, 1) := by decide +kernel
theorem dX4_readsTicks_35 : decode cX4_readsTicks 35 = .ok (.iadd, 1) := by decide +kernel
theorem dX4_readsTicks_36 : decode cX4_readsTicks 36 = .ok (.putfield 147, 3) := by decide +kernel
theorem dX4_readsTicks_39 : decode cX4_readsTicks 39 = .ok (.aload_n 0, 1) := by decide +kernel
theorem dX4_readsTicks_40 : decode cX4_readsTicks 40 = .ok (.bipush 48, 2) := by decide +kernel
theorem dX4_readsTicks_42 : decode cX4_readsTicks 42 = .ok (.bipush 57, 2) := by decide +kernel
theorem dX4_readsTicks_44 : decode cX4_readsTicks 44 = .ok (.invokevirtual 150, 3) := by decide +kernel
theorem dX4_readsTicks_47 : decode cX4_readsTicks 47 = .ok (.ifCond .eq 37, 3) := by decide +kernel
theorem dX4_readsTicks_50 : decode cX4_readsTicks 50 = .ok (.aload_n 0, 1) := by decide +kernel
theorem dX4_readsTicks_51 : decode cX4_readsTicks 51 = .ok (.bipush 10, 2) := by decide +kernel
theorem dX4_readsTicks_53 : decode cX4_readsTicks 53 = .ok (.aload_n 0, 1) := by decide +kernel
theorem dX4_readsTicks_54 : decode cX4_readsTicks 54 = .ok (.getfield 156, 3) := by decide +kernel
theorem dX4_readsTicks_57 : decode cX4_readsTicks 57 = .ok (.imul, 1) := by decide +kernel
theorem dX4_readsTicks_58 : decode cX4_readsTicks 58 = .ok (.aload_n 0, 1) := by decide +kernel
theorem dX4_readsTicks_59 : decode cX4_readsTicks 59 = .ok (.getfield 25, 3) := by decide +kernel
theorem dX4_readsTicks_62 : decode cX4_readsTicks 62 = .ok (.aload_n 0, 1) := by decide +kernel
theorem dX4_readsTicks_63 : decode cX4_readsTicks 63 = .ok (.getfield 147, 3) := by decide +kernel
theorem dX4_readsTicks_66 : decode cX4_readsTicks 66 = .ok (.iaload, 1) := by decide +kernel
theorem dX4_readsTicks_67 : decode cX4_readsTicks 67 = .ok (.iadd, 1) := by decide +kernel
theorem dX4_readsTicks_68 : decode cX4_readsTicks 68 = .ok (.bipush 48, 2) := by decide +kernel
theorem dX4_readsTicks_70 : decode cX4_readsTicks 70 = .ok (.isub, 1) := by decide +kernel
theorem dX4_readsTicks_71 : decode cX4_readsTicks 71 = .ok (.putfield 156, 3) := by decide +kernel
theorem dX4_readsTicks_74 : decode cX4_readsTicks 74 = .ok (.aload_n 0, 1) := by decide +kernel
theorem dX4_readsTicks_75 : decode cX4_readsTicks 75 = .ok (.dup, 1) := by decide +kernel
theorem dX4_readsTicks_76 : decode cX4_readsTicks 76 = .ok (.getfield 147, 3) := by decide +kernel
theorem dX4_readsTicks_79 : decode cX4_readsTicks 79 = .ok (.iconst 1, 1) := by decide +kernel
theorem dX4_readsTicks_80 : decode cX4_readsTicks 80 = .ok (.iadd, 1) := by decide +kernel
theorem dX4_readsTicks_81 : decode cX4_readsTicks 81 = .ok (.putfield 147, 3) := by decide +kernel
theorem dX4_readsTicks_84 : decode cX4_readsTicks 84 = .ok (.iconst 1, 1) := by decide +kernel
theorem dX4_readsTicks_85 : decode cX4_readsTicks 85 = .ok (.ireturn, 1) := by decide +kernel
set_option maxRecDepth 20000 in
theorem ggX4_readsEvent_X4_takesOne : GoodIn wsX4_readsEvent wsX4_takesOne := goodIn_r _ [6, 1, 7, 8, 9, 5, 10, 11, 12, 13, 14, 15, 25, 26, 27, 28, 29, 30, 31, 32, 33, 34] (by decide +kernel) (by decide +kernel)
set_option maxRecDepth 20000 in
theorem gX4_readsEvent_X4_takesOne : GoodIn wsX4_readsEvent (wsV RX4 153 RX4 yX4_takesOne wsX4_takesOne) := goodIn_app (goodIn_of _ (by decide +kernel)) ggX4_readsEvent_X4_takesOne
set_option maxRecDepth 20000 in
theorem ggX4_readsEvent_X4_readsTicks : GoodIn wsX4_readsEvent wsX4_readsTicks := goodIn_r _ [19, 12, 1, 20, 7, 8, 9, 5, 10, 11, 13, 14, 15, 25, 26, 27, 28, 29, 30, 31, 32, 33, 34] (by decide +kernel) (by decide +kernel)
set_option maxRecDepth 20000 in
theorem gX4_readsEvent_X4_readsTicks : GoodIn wsX4_readsEvent (wsV RX4 159 RX4 yX4_readsTicks wsX4_readsTicks) := goodIn_app (goodIn_of _ (by decide +kernel)) ggX4_readsEvent_X4_readsTicks
set_option maxRecDepth 20000 in
theorem ggX4_readsEvent_X4_isHere : GoodIn wsX4_readsEvent wsX4_isHere := goodIn_r _ [10, 1, 11, 12, 13, 14, 5, 15, 25, 26, 27, 28, 29, 30, 31, 32, 33, 34] (by decide +kernel) (by decide +kernel)
set_option maxRecDepth 20000 in
theorem gX4_readsEvent_X4_isHere : GoodIn wsX4_readsEvent (wsV RX4 150 RX4 yX4_isHere wsX4_isHere) := goodIn_app (goodIn_of _ (by decide +kernel)) ggX4_readsEvent_X4_isHere
set_option maxRecDepth 20000 in
theorem ggX4_readsEvent_X4_beam : GoodIn wsX4_readsEvent wsX4_beam := goodIn_r _ [24, 2, 3, 4, 5, 6, 1, 7, 8, 9, 10, 11, 12, 13, 14, 15, 25, 26, 27, 28, 29, 30, 31, 32, 33, 34] (by decide +kernel) (by decide +kernel)
set_option maxRecDepth 20000 in
theorem gX4_readsEvent_X4_beam : GoodIn wsX4_readsEvent (wsV RX4 163 RX4 yX4_beam wsX4_beam) := goodIn_app (goodIn_of _ (by decide +kernel)) ggX4_readsEvent_X4_beam
theorem dX4_readsEvent_0 : decode cX4_readsEvent 0 = .ok (.aload_n 0, 1) := by decide +kernel
theorem dX4_readsEvent_1 : decode cX4_readsEvent 1 = .ok (.bipush 46, 2) := by decide +kernel
theorem dX4_readsEvent_3 : decode cX4_readsEvent 3 = .ok (.invokevirtual 153, 3) := by decide +kernel
theorem dX4_readsEvent_6 : decode cX4_readsEvent 6 = .ok (.ifCond .eq 8, 3) := by decide +kernel
theorem dX4_readsEvent_9 : decode cX4_readsEvent 9 = .ok (.aload_n 0, 1) := by decide +kernel
theorem dX4_readsEvent_10 : decode cX4_readsEvent 10 = .ok (.invokevirtual 159, 3) := by decide +kernel
theorem dX4_readsEvent_13 : decode cX4_readsEvent 13 = .ok (.ireturn, 1) := by decide +kernel
theorem dX4_readsEvent_14 : decode cX4_readsEvent 14 = .ok (.aload_n 0, 1) := by decide +kernel
theorem dX4_readsEvent_15 : decode cX4_readsEvent 15 = .ok (.bipush 48, 2) := by decide +kernel
theorem dX4_readsEvent_17 : decode cX4_readsEvent 17 = .ok (.bipush 53, 2) := by decide +kernel
theorem dX4_readsEvent_19 : decode cX4_readsEvent 19 = .ok (.invokevirtual 150, 3) := by decide +kernel
theorem dX4_readsEvent_22 : decode cX4_readsEvent 22 = .ok (.ifCond .ne 5, 3) := by decide +kernel
theorem dX4_readsEvent_25 : decode cX4_readsEvent 25 = .ok (.iconst 0, 1) := by decide +kernel
theorem dX4_readsEvent_26 : decode cX4_readsEvent 26 = .ok (.ireturn, 1) := by decide +kernel
theorem dX4_readsEvent_27 : decode cX4_readsEvent 27 = .ok (.aload_n 0, 1) := by decide +kernel
theorem dX4_readsEvent_28 : decode cX4_readsEvent 28 = .ok (.dup, 1) := by decide +kernel
theorem dX4_readsEvent_29 : decode cX4_readsEvent 29 = .ok (.getfield 147, 3) := by decide +kernel
theorem dX4_readsEvent_32 : decode cX4_readsEvent 32 = .ok (.iconst 1, 1) := by decide +kernel
theorem dX4_readsEvent_33 : decode cX4_readsEvent 33 = .ok (.iadd, 1) := by decide +kernel
theorem dX4_readsEvent_34 : decode cX4_readsEvent 34 = .ok (.putfield 147, 3) := by decide +kernel
theorem dX4_readsEvent_37 : decode cX4_readsEvent 37 = .ok (.aload_n 0, 1) := by decide +kernel
theorem dX4_readsEvent_38 : decode cX4_readsEvent 38 = .ok (.invokevirtual 163, 3) := by decide +kernel
theorem dX4_readsEvent_41 : decode cX4_readsEvent 41 = .ok (.bipush (-6), 2) := by decide +kernel
theorem dX4_readsEvent_43 : decode cX4_readsEvent 43 = .ok (.if_icmp .ne 5, 3) := by decide +kernel
theorem dX4_readsEvent_46 : decode cX4_readsEvent 46 = .ok (.iconst 0, 1) := by decide +kernel
theorem dX4_readsEvent_47 : decode cX4_readsEvent 47 = .ok (.ireturn, 1) := by decide +kernel
theorem dX4_readsEvent_48 : decode cX4_readsEvent 48 = .ok (.aload_n 0, 1) := by decide +kernel
theorem dX4_readsEvent_49 : decode cX4_readsEvent 49 = .ok (.bipush 111, 2) := by decide +kernel
theorem dX4_readsEvent_51 : decode cX4_readsEvent 51 = .ok (.bipush 111, 2) := by decide +kernel
theorem dX4_readsEvent_53 : decode cX4_readsEvent 53 = .ok (.invokevirtual 150, 3) := by decide +kernel
theorem dX4_readsEvent_56 : decode cX4_readsEvent 56 = .ok (.ifCond .ne 25, 3) := by decide +kernel
theorem dX4_readsEvent_59 : decode cX4_readsEvent 59 = .ok (.aload_n 0, 1) := by decide +kernel
theorem dX4_readsEvent_60 : decode cX4_readsEvent 60 = .ok (.bipush 105, 2) := by decide +kernel
theorem dX4_readsEvent_62 : decode cX4_readsEvent 62 = .ok (.bipush 105, 2) := by decide +kernel
theorem dX4_readsEvent_64 : decode cX4_readsEvent 64 = .ok (.invokevirtual 150, 3) := by decide +kernel
theorem dX4_readsEvent_67 : decode cX4_readsEvent 67 = .ok (.ifCond .ne 14, 3) := by decide +kernel
theorem dX4_readsEvent_70 : decode cX4_readsEvent 70 = .ok (.aload_n 0, 1) := by decide +kernel
theorem dX4_readsEvent_71 : decode cX4_readsEvent 71 = .ok (.bipush 98, 2) := by decide +kernel
theorem dX4_readsEvent_73 : decode cX4_readsEvent 73 = .ok (.bipush 98, 2) := by decide +kernel
theorem dX4_readsEvent_75 : decode cX4_readsEvent 75 = .ok (.invokevirtual 150, 3) := by decide +kernel
theorem dX4_readsEvent_78 : decode cX4_readsEvent 78 = .ok (.ifCond .eq 16, 3) := by decide +kernel
theorem dX4_readsEvent_81 : decode cX4_readsEvent 81 = .ok (.aload_n 0, 1) := by decide +kernel
theorem dX4_readsEvent_82 : decode cX4_readsEvent 82 = .ok (.dup, 1) := by decide +kernel
theorem dX4_readsEvent_83 : decode cX4_readsEvent 83 = .ok (.getfield 147, 3) := by decide +kernel
theorem dX4_readsEvent_86 : decode cX4_readsEvent 86 = .ok (.iconst 1, 1) := by decide +kernel
theorem dX4_readsEvent_87 : decode cX4_readsEvent 87 = .ok (.iadd, 1) := by decide +kernel
theorem dX4_readsEvent_88 : decode cX4_readsEvent 88 = .ok (.putfield 147, 3) := by decide +kernel
theorem dX4_readsEvent_91 : decode cX4_readsEvent 91 = .ok (.goto (-43), 3) := by decide +kernel
theorem dX4_readsEvent_94 : decode cX4_readsEvent 94 = .ok (.iconst 1, 1) := by decide +kernel
theorem dX4_readsEvent_95 : decode cX4_readsEvent 95 = .ok (.ireturn, 1) := by decide +kernel
set_option maxRecDepth 20000 in
theorem ggX4_fault_X4_readsEvent : GoodIn wsX4_fault wsX4_readsEvent := goodIn_r _ [7, 1, 8, 9, 10, 6, 11, 12, 13, 14, 15, 2, 16, 17, 18, 19, 20, 21, 22, 23, 24, 25, 26, 27, 28, 29, 30, 31, 32, 33, 34, 35, 36, 37, 38] (by decide +kernel) (by decide +kernel)
set_option maxRecDepth 20000 in
theorem gX4_fault_X4_readsEvent : GoodIn wsX4_fault (wsV RX4 166 RX4 yX4_readsEvent wsX4_readsEvent) := goodIn_app (goodIn_of _ (by decide +kernel)) ggX4_fault_X4_readsEvent
set_option maxRecDepth 20000 in
theorem ggX4_fault_X4_takesOne : GoodIn wsX4_fault wsX4_takesOne := goodIn_r _ [11, 1, 12, 13, 14, 6, 15, 2, 16, 17, 18, 19, 29, 30, 31, 32, 33, 34, 35, 36, 37, 38] (by decide +kernel) (by decide +kernel)
set_option maxRecDepth 20000 in
theorem gX4_fault_X4_takesOne : GoodIn wsX4_fault (wsV RX4 153 RX4 yX4_takesOne wsX4_takesOne) := goodIn_app (goodIn_of _ (by decide +kernel)) ggX4_fault_X4_takesOne
theorem dX4_fault_0 : decode cX4_fault 0 = .ok (.aload_n 0, 1) := by decide +kernel
theorem dX4_fault_1 : decode cX4_fault 1 = .ok (.iconst 0, 1) := by decide +kernel
theorem dX4_fault_2 : decode cX4_fault 2 = .ok (.putfield 147, 3) := by decide +kernel
theorem dX4_fault_5 : decode cX4_fault 5 = .ok (.iconst 1, 1) := by decide +kernel
theorem dX4_fault_6 : decode cX4_fault 6 = .ok (.istore_n 1, 1) := by decide +kernel
theorem dX4_fault_7 : decode cX4_fault 7 = .ok (.iload_n 1, 1) := by decide +kernel
theorem dX4_fault_8 : decode cX4_fault 8 = .ok (.ifCond .eq 25, 3) := by decide +kernel
theorem dX4_fault_11 : decode cX4_fault 11 = .ok (.aload_n 0, 1) := by decide +kernel
theorem dX4_fault_12 : decode cX4_fault 12 = .ok (.invokevirtual 166, 3) := by decide +kernel
theorem dX4_fault_15 : decode cX4_fault 15 = .ok (.ifCond .ne 8, 3) := by decide +kernel
theorem dX4_fault_18 : decode cX4_fault 18 = .ok (.aload_n 0, 1) := by decide +kernel
theorem dX4_fault_19 : decode cX4_fault 19 = .ok (.getfield 147, 3) := by decide +kernel
theorem dX4_fault_22 : decode cX4_fault 22 = .ok (.ireturn, 1) := by decide +kernel
theorem dX4_fault_23 : decode cX4_fault 23 = .ok (.aload_n 0, 1) := by decide +kernel
theorem dX4_fault_24 : decode cX4_fault 24 = .ok (.bipush 59, 2) := by decide +kernel
theorem dX4_fault_26 : decode cX4_fault 26 = .ok (.invokevirtual 153, 3) := by decide +kernel
theorem dX4_fault_29 : decode cX4_fault 29 = .ok (.istore_n 1, 1) := by decide +kernel
theorem dX4_fault_30 : decode cX4_fault 30 = .ok (.goto (-23), 3) := by decide +kernel
theorem dX4_fault_33 : decode cX4_fault 33 = .ok (.aload_n 0, 1) := by decide +kernel
theorem dX4_fault_34 : decode cX4_fault 34 = .ok (.getfield 147, 3) := by decide +kernel
theorem dX4_fault_37 : decode cX4_fault 37 = .ok (.aload_n 0, 1) := by decide +kernel
theorem dX4_fault_38 : decode cX4_fault 38 = .ok (.getfield 119, 3) := by decide +kernel
theorem dX4_fault_41 : decode cX4_fault 41 = .ok (.if_icmp .ne 8, 3) := by decide +kernel
theorem dX4_fault_44 : decode cX4_fault 44 = .ok (.bipush (-6), 2) := by decide +kernel
theorem dX4_fault_46 : decode cX4_fault 46 = .ok (.goto 7, 3) := by decide +kernel
theorem dX4_fault_49 : decode cX4_fault 49 = .ok (.aload_n 0, 1) := by decide +kernel
theorem dX4_fault_50 : decode cX4_fault 50 = .ok (.getfield 147, 3) := by decide +kernel
theorem dX4_fault_53 : decode cX4_fault 53 = .ok (.ireturn, 1) := by decide +kernel
set_option maxRecDepth 20000 in
theorem ggX4_reads_X4_takesOne : GoodIn wsX4_reads wsX4_takesOne := goodIn_r _ [10, 1, 11, 12, 13, 9, 14, 15, 5, 16, 17, 18, 70, 71, 72, 73, 74, 75, 76, 77, 78, 79] (by decide +kernel) (by decide +kernel)
set_option maxRecDepth 20000 in
theorem gX4_reads_X4_takesOne : GoodIn wsX4_reads (wsV RX4 153 RX4 yX4_takesOne wsX4_takesOne) := goodIn_app (goodIn_of _ (by decide +kernel)) ggX4_reads_X4_takesOne
set_option maxRecDepth 20000 in
theorem ggX4_reads_X4_readsTicks : GoodIn wsX4_reads wsX4_readsTicks := goodIn_r _ [22, 5, 1, 3, 11, 12, 13, 9, 14, 15, 16, 17, 18, 70, 71, 72, 73, 74, 75, 76, 77, 78, 79] (by decide +kernel) (by decide +kernel)
set_option maxRecDepth 20000 in
theorem gX4_reads_X4_readsTicks : GoodIn wsX4_reads (wsV RX4 159 RX4 yX4_readsTicks wsX4_readsTicks) := goodIn_app (goodIn_of _ (by decide +kernel)) ggX4_reads_X4_readsTicks
set_option maxRecDepth 20000 in
theorem ggX4_reads_X4_beam : GoodIn wsX4_reads wsX4_beam := goodIn_r _ [26, 6, 7, 8, 9, 10, 1, 11, 12, 13, 14, 15, 5, 16, 17, 18, 70, 71, 72, 73, 74, 75, 76, 77, 78, 79] (by decide +kernel) (by decide +kernel)
set_option maxRecDepth 20000 in
theorem gX4_reads_X4_beam : GoodIn wsX4_reads (wsV RX4 163 RX4 yX4_beam wsX4_beam) := goodIn_app (goodIn_of _ (by decide +kernel)) ggX4_reads_X4_beam
set_option maxRecDepth 20000 in
theorem ggX4_reads_X4_happens : GoodIn wsX4_reads wsX4_happens := goodIn_r _ [30, 2, 31, 32, 33, 9, 34, 35, 36, 37, 38, 39, 40, 41, 42, 43, 44, 45, 46, 47, 48, 49, 50, 51, 52, 53, 54, 55, 56, 57, 58, 59, 60, 61, 62, 63, 64, 65, 66, 67, 68, 69, 70, 71, 72, 73, 74, 75, 76, 77, 78, 79] (by decide +kernel) (by decide +kernel)
set_option maxRecDepth 20000 in
theorem gX4_reads_X4_happens : GoodIn wsX4_reads (wsV RX4 90 RX4 yX4_happens wsX4_happens) := goodIn_app (goodIn_of _ (by decide +kernel)) ggX4_reads_X4_happens
theorem dX4_reads_0 : decode cX4_reads 0 = .ok (.aload_n 0, 1) := by decide +kernel
theorem dX4_reads_1 : decode cX4_reads 1 = .ok (.iconst 0, 1) := by decide +kernel
theorem dX4_reads_2 : decode cX4_reads 2 = .ok (.putfield 147, 3) := by decide +kernel
theorem dX4_reads_5 : decode cX4_reads 5 = .ok (.iconst 0, 1) := by decide +kernel
theorem dX4_reads_6 : decode cX4_reads 6 = .ok (.istore_n 1, 1) := by decide +kernel
theorem dX4_reads_7 : decode cX4_reads 7 = .ok (.iconst 1, 1) := by decide +kernel
theorem dX4_reads_8 : decode cX4_reads 8 = .ok (.istore_n 2, 1) := by decide +kernel
theorem dX4_reads_9 : decode cX4_reads 9 = .ok (.iload_n 2, 1) := by decide +kernel
theorem dX4_reads_10 : decode cX4_reads 10 = .ok (.ifCond .eq 118, 3) := by decide +kernel
theorem dX4_reads_13 : decode cX4_reads 13 = .ok (.aload_n 0, 1) := by decide +kernel
theorem dX4_reads_14 : decode cX4_reads 14 = .ok (.bipush 46, 2) := by decide +kernel
theorem dX4_reads_16 : decode cX4_reads 16 = .ok (.invokevirtual 153, 3) := by decide +kernel
theorem dX4_reads_19 : decode cX4_reads 19 = .ok (.ifCond .eq 44, 3) := by decide +kernel
theorem dX4_reads_22 : decode cX4_reads 22 = .ok (.aload_n 0, 1) := by decide +kernel
theorem dX4_reads_23 : decode cX4_reads 23 = .ok (.invokevirtual 159, 3) := by decide +kernel
theorem dX4_reads_26 : decode cX4_reads 26 = .ok (.istore_n 3, 1) := by decide +kernel
theorem dX4_reads_27 : decode cX4_reads 27 = .ok (.aload_n 0, 1) := by decide +kernel
theorem dX4_reads_28 : decode cX4_reads 28 = .ok (.getfield 7, 3) := by decide +kernel
theorem dX4_reads_31 : decode cX4_reads 31 = .ok (.iconst 3, 1) := by decide +kernel
theorem dX4_reads_32 : decode cX4_reads 32 = .ok (.dup2, 1) := by decide +kernel
theorem dX4_reads_33 : decode cX4_reads 33 = .ok (.iaload, 1) := by decide +kernel
theorem dX4_reads_34 : decode cX4_reads 34 = .ok (.aload_n 0, 1) := by decide +kernel
theorem dX4_reads_35 : decode cX4_reads 35 = .ok (.getfield 7, 3) := by decide +kernel
theorem dX4_reads_38 : decode cX4_reads 38 = .ok (.iconst 3, 1) := by decide +kernel
theorem dX4_reads_39 : decode cX4_reads 39 = .ok (.iaload, 1) := by decide +kernel
theorem dX4_reads_40 : decode cX4_reads 40 = .ok (.aload_n 0, 1) := by decide +kernel
theorem dX4_reads_41 : decode cX4_reads 41 = .ok (.getfield 156, 3) := by decide +kernel
theorem dX4_reads_44 : decode cX4_reads 44 = .ok (.iadd, 1) := by decide +kernel
theorem dX4_reads_45 : decode cX4_reads 45 = .ok (.ldc 95, 2) := by decide +kernel
theorem dX4_reads_47 : decode cX4_reads 47 = .ok (.if_icmp .le 7, 3) := by decide +kernel
theorem dX4_reads_50 : decode cX4_reads 50 = .ok (.iconst 0, 1) := by decide +kernel
theorem dX4_reads_51 : decode cX4_reads 51 = .ok (.goto 7, 3) := by decide +kernel
theorem dX4_reads_54 : decode cX4_reads 54 = .ok (.aload_n 0, 1) := by decide +kernel
theorem dX4_reads_55 : decode cX4_reads 55 = .ok (.getfield 156, 3) := by decide +kernel
theorem dX4_reads_58 : decode cX4_reads 58 = .ok (.iadd, 1) := by decide +kernel
theorem dX4_reads_59 : decode cX4_reads 59 = .ok (.iastore, 1) := by decide +kernel
theorem dX4_reads_60 : decode cX4_reads 60 = .ok (.goto 58, 3) := by decide +kernel
theorem dX4_reads_63 : decode cX4_reads 63 = .ok (.aload_n 0, 1) := by decide +kernel
theorem dX4_reads_64 : decode cX4_reads 64 = .ok (.getfield 25, 3) := by decide +kernel
theorem dX4_reads_67 : decode cX4_reads 67 = .ok (.aload_n 0, 1) := by decide +kernel
theorem dX4_reads_68 : decode cX4_reads 68 = .ok (.getfield 147, 3) := by decide +kernel
theorem dX4_reads_71 : decode cX4_reads 71 = .ok (.iaload, 1) := by decide +kernel
theorem dX4_reads_72 : decode cX4_reads 72 = .ok (.bipush 48, 2) := by decide +kernel
theorem dX4_reads_74 : decode cX4_reads 74 = .ok (.isub, 1) := by decide +kernel
theorem dX4_reads_75 : decode cX4_reads 75 = .ok (.istore_n 3, 1) := by decide +kernel
theorem dX4_reads_76 : decode cX4_reads 76 = .ok (.aload_n 0, 1) := by decide +kernel
theorem dX4_reads_77 : decode cX4_reads 77 = .ok (.dup, 1) := by decide +kernel
theorem dX4_reads_78 : decode cX4_reads 78 = .ok (.getfield 147, 3) := by decide +kernel
theorem dX4_reads_81 : decode cX4_reads 81 = .ok (.iconst 1, 1) := by decide +kernel
theorem dX4_reads_82 : decode cX4_reads 82 = .ok (.iadd, 1) := by decide +kernel
theorem dX4_reads_83 : decode cX4_reads 83 = .ok (.putfield 147, 3) := by decide +kernel
theorem dX4_reads_86 : decode cX4_reads 86 = .ok (.aload_n 0, 1) := by decide +kernel
theorem dX4_reads_87 : decode cX4_reads 87 = .ok (.invokevirtual 163, 3) := by decide +kernel
theorem dX4_reads_90 : decode cX4_reads 90 = .ok (.istore 4, 2) := by decide +kernel
theorem dX4_reads_92 : decode cX4_reads 92 = .ok (.iload 4, 2) := by decide +kernel
theorem dX4_reads_94 : decode cX4_reads 94 = .ok (.bipush (-6), 2) := by decide +kernel
theorem dX4_reads_96 : decode cX4_reads 96 = .ok (.if_icmp .eq 22, 3) := by decide +kernel
theorem dX4_reads_99 : decode cX4_reads 99 = .ok (.iload_n 1, 1) := by decide +kernel
theorem dX4_reads_100 : decode cX4_reads 100 = .ok (.aload_n 0, 1) := by decide +kernel
theorem dX4_reads_101 : decode cX4_reads 101 = .ok (.iload_n 3, 1) := by decide +kernel
theorem dX4_reads_102 : decode cX4_reads 102 = .ok (.iload 4, 2) := by decide +kernel
theorem dX4_reads_104 : decode cX4_reads 104 = .ok (.invokevirtual 90, 3) := by decide +kernel
theorem dX4_reads_107 : decode cX4_reads 107 = .ok (.iadd, 1) := by decide +kernel
theorem dX4_reads_108 : decode cX4_reads 108 = .ok (.istore_n 1, 1) := by decide +kernel
theorem dX4_reads_109 : decode cX4_reads 109 = .ok (.aload_n 0, 1) := by decide +kernel
theorem dX4_reads_110 : decode cX4_reads 110 = .ok (.invokevirtual 163, 3) := by decide +kernel
theorem dX4_reads_113 : decode cX4_reads 113 = .ok (.istore 4, 2) := by decide +kernel
theorem dX4_reads_115 : decode cX4_reads 115 = .ok (.goto (-23), 3) := by decide +kernel
theorem dX4_reads_118 : decode cX4_reads 118 = .ok (.aload_n 0, 1) := by decide +kernel
theorem dX4_reads_119 : decode cX4_reads 119 = .ok (.bipush 59, 2) := by decide +kernel
theorem dX4_reads_121 : decode cX4_reads 121 = .ok (.invokevirtual 153, 3) := by decide +kernel
theorem dX4_reads_124 : decode cX4_reads 124 = .ok (.istore_n 2, 1) := by decide +kernel
theorem dX4_reads_125 : decode cX4_reads 125 = .ok (.goto (-116), 3) := by decide +kernel
theorem dX4_reads_128 : decode cX4_reads 128 = .ok (.iload_n 1, 1) := by decide +kernel
theorem dX4_reads_129 : decode cX4_reads 129 = .ok (.ireturn, 1) := by decide +kernel
set_option maxRecDepth 20000 in
theorem ggX4_read_X4_fault : GoodIn wsX4_read wsX4_fault := goodIn_r _ [6, 7, 1, 8, 9, 10, 5, 11, 12, 13, 14, 15, 16, 17, 18, 19, 20, 21, 22, 23, 24, 25, 26, 27, 28, 29, 30, 31, 32, 88, 89, 90, 91, 92, 93, 94, 95, 96, 97] (by decide +kernel) (by decide +kernel)
set_option maxRecDepth 20000 in
theorem gX4_read_X4_fault : GoodIn wsX4_read (wsV RX4 125 RX4 yX4_fault wsX4_fault) := goodIn_app (goodIn_of _ (by decide +kernel)) ggX4_read_X4_fault
set_option maxRecDepth 20000 in
theorem ggX4_read_X4_changes : GoodIn wsX4_read wsX4_changes := goodIn_r _ [36, 37, 38, 39, 88, 89, 90, 91, 92, 93, 94, 95, 96, 97] (by decide +kernel) (by decide +kernel)
set_option maxRecDepth 20000 in
theorem gX4_read_X4_changes : GoodIn wsX4_read (wsV RX4 82 RX4 yX4_changes wsX4_changes) := goodIn_app (goodIn_of _ (by decide +kernel)) ggX4_read_X4_changes
set_option maxRecDepth 20000 in
theorem ggX4_read_X4_reads : GoodIn wsX4_read wsX4_reads := goodIn_r _ [43, 7, 39, 28, 44, 20, 12, 13, 14, 5, 15, 16, 17, 18, 19, 1, 21, 22, 23, 24, 25, 26, 27, 29, 30, 31, 32, 45, 46, 47, 48, 49, 50, 51, 52, 53, 54, 55, 56, 57, 58, 59, 60, 61, 62, 63, 64, 65, 66, 67, 68, 69, 70, 71, 72, 73, 74, 75, 76, 77, 78, 79, 80, 81, 82, 83, 84, 85, 86, 87, 88, 89, 90, 91, 92, 93, 94, 95, 96, 97] (by decide +kernel) (by decide +kernel)
set_option maxRecDepth 20000 in
theorem gX4_read_X4_reads : GoodIn wsX4_read (wsV RX4 131 RX4 yX4_reads wsX4_reads) := goodIn_app (goodIn_of _ (by decide +kernel)) ggX4_read_X4_reads
theorem dX4_read_0 : decode cX4_read 0 = .ok (.aload_n 0, 1) := by decide +kernel
theorem dX4_read_1 : decode cX4_read 1 = .ok (.invokevirtual 125, 3) := by decide +kernel
theorem dX4_read_4 : decode cX4_read 4 = .ok (.bipush (-6), 2) := by decide +kernel
theorem dX4_read_6 : decode cX4_read 6 = .ok (.if_icmp .eq 6, 3) := by decide +kernel
theorem dX4_read_9 : decode cX4_read 9 = .ok (.bipush (-3), 2) := by decide +kernel
theorem dX4_read_11 : decode cX4_read 11 = .ok (.ireturn, 1) := by decide +kernel
theorem dX4_read_12 : decode cX4_read 12 = .ok (.aload_n 0, 1) := by decide +kernel
theorem dX4_read_13 : decode cX4_read 13 = .ok (.invokevirtual 82, 3) := by decide +kernel
theorem dX4_read_16 : decode cX4_read 16 = .ok (.aload_n 0, 1) := by decide +kernel
theorem dX4_read_17 : decode cX4_read 17 = .ok (.invokevirtual 131, 3) := by decide +kernel
theorem dX4_read_20 : decode cX4_read 20 = .ok (.istore_n 1, 1) := by decide +kernel
theorem dX4_read_21 : decode cX4_read 21 = .ok (.aload_n 0, 1) := by decide +kernel
theorem dX4_read_22 : decode cX4_read 22 = .ok (.iconst 0, 1) := by decide +kernel
theorem dX4_read_23 : decode cX4_read 23 = .ok (.putfield 119, 3) := by decide +kernel
theorem dX4_read_26 : decode cX4_read 26 = .ok (.iload_n 1, 1) := by decide +kernel
theorem dX4_read_27 : decode cX4_read 27 = .ok (.ireturn, 1) := by decide +kernel
theorem dX4_undo_0 : decode cX4_undo 0 = .ok (.aload_n 0, 1) := by decide +kernel
theorem dX4_undo_1 : decode cX4_undo 1 = .ok (.getfield 32, 3) := by decide +kernel
theorem dX4_undo_4 : decode cX4_undo 4 = .ok (.ifCond .ne 6, 3) := by decide +kernel
theorem dX4_undo_7 : decode cX4_undo 7 = .ok (.bipush (-5), 2) := by decide +kernel
theorem dX4_undo_9 : decode cX4_undo 9 = .ok (.ireturn, 1) := by decide +kernel
theorem dX4_undo_10 : decode cX4_undo 10 = .ok (.aload_n 0, 1) := by decide +kernel
theorem dX4_undo_11 : decode cX4_undo 11 = .ok (.dup, 1) := by decide +kernel
theorem dX4_undo_12 : decode cX4_undo 12 = .ok (.getfield 32, 3) := by decide +kernel
theorem dX4_undo_15 : decode cX4_undo 15 = .ok (.iconst 1, 1) := by decide +kernel
theorem dX4_undo_16 : decode cX4_undo 16 = .ok (.isub, 1) := by decide +kernel
theorem dX4_undo_17 : decode cX4_undo 17 = .ok (.putfield 32, 3) := by decide +kernel
theorem dX4_undo_20 : decode cX4_undo 20 = .ok (.iconst 0, 1) := by decide +kernel
theorem dX4_undo_21 : decode cX4_undo 21 = .ok (.istore_n 1, 1) := by decide +kernel
theorem dX4_undo_22 : decode cX4_undo 22 = .ok (.iload_n 1, 1) := by decide +kernel
theorem dX4_undo_23 : decode cX4_undo 23 = .ok (.bipush 86, 2) := by decide +kernel
theorem dX4_undo_25 : decode cX4_undo 25 = .ok (.if_icmp .ge 29, 3) := by decide +kernel
theorem dX4_undo_28 : decode cX4_undo 28 = .ok (.aload_n 0, 1) := by decide +kernel
theorem dX4_undo_29 : decode cX4_undo 29 = .ok (.getfield 7, 3) := by decide +kernel
theorem dX4_undo_32 : decode cX4_undo 32 = .ok (.iload_n 1, 1) := by decide +kernel
theorem dX4_undo_33 : decode cX4_undo 33 = .ok (.aload_n 0, 1) := by decide +kernel
theorem dX4_undo_34 : decode cX4_undo 34 = .ok (.getfield 16, 3) := by decide +kernel
theorem dX4_undo_37 : decode cX4_undo 37 = .ok (.bipush 86, 2) := by decide +kernel
theorem dX4_undo_39 : decode cX4_undo 39 = .ok (.aload_n 0, 1) := by decide +kernel
theorem dX4_undo_40 : decode cX4_undo 40 = .ok (.getfield 32, 3) := by decide +kernel
theorem dX4_undo_43 : decode cX4_undo 43 = .ok (.imul, 1) := by decide +kernel
theorem dX4_undo_44 : decode cX4_undo 44 = .ok (.iload_n 1, 1) := by decide +kernel
theorem dX4_undo_45 : decode cX4_undo 45 = .ok (.iadd, 1) := by decide +kernel
theorem dX4_undo_46 : decode cX4_undo 46 = .ok (.iaload, 1) := by decide +kernel
theorem dX4_undo_47 : decode cX4_undo 47 = .ok (.iastore, 1) := by decide +kernel
theorem dX4_undo_48 : decode cX4_undo 48 = .ok (.iinc 1 1, 3) := by decide +kernel
theorem dX4_undo_51 : decode cX4_undo 51 = .ok (.goto (-29), 3) := by decide +kernel
theorem dX4_undo_54 : decode cX4_undo 54 = .ok (.aload_n 0, 1) := by decide +kernel
theorem dX4_undo_55 : decode cX4_undo 55 = .ok (.getfield 32, 3) := by decide +kernel
theorem dX4_undo_58 : decode cX4_undo 58 = .ok (.ireturn, 1) := by decide +kernel
theorem dX4_isSlot_0 : decode cX4_isSlot 0 = .ok (.iload_n 0, 1) := by decide +kernel
theorem dX4_isSlot_1 : decode cX4_isSlot 1 = .ok (.ifCond .eq 8, 3) := by decide +kernel
theorem dX4_isSlot_4 : decode cX4_isSlot 4 = .ok (.iload_n 0, 1) := by decide +kernel
theorem dX4_isSlot_5 : decode cX4_isSlot 5 = .ok (.iconst 1, 1) := by decide +kernel
theorem dX4_isSlot_6 : decode cX4_isSlot 6 = .ok (.if_icmp .ne 7, 3) := by decide +kernel
theorem dX4_isSlot_9 : decode cX4_isSlot 9 = .ok (.iconst 1, 1) := by decide +kernel
theorem dX4_isSlot_10 : decode cX4_isSlot 10 = .ok (.goto 4, 3) := by decide +kernel
theorem dX4_isSlot_13 : decode cX4_isSlot 13 = .ok (.iconst 0, 1) := by decide +kernel
theorem dX4_isSlot_14 : decode cX4_isSlot 14 = .ok (.ireturn, 1) := by decide +kernel
set_option maxRecDepth 20000 in
theorem ggX4_save_X4_isSlot : GoodIn wsX4_save wsX4_isSlot := goodIn_r _ [7] (by decide +kernel) (by decide +kernel)
set_option maxRecDepth 20000 in
theorem gX4_save_X4_isSlot : GoodIn wsX4_save (va_wsS RX4 169 yX4_isSlot wsX4_isSlot) := goodIn_app (goodIn_of _ (by decide +kernel)) ggX4_save_X4_isSlot
theorem dX4_save_0 : decode cX4_save 0 = .ok (.iload_n 1, 1) := by decide +kernel
theorem dX4_save_1 : decode cX4_save 1 = .ok (.invokestatic 169, 3) := by decide +kernel
theorem dX4_save_4 : decode cX4_save 4 = .ok (.ifCond .ne 6, 3) := by decide +kernel
theorem dX4_save_7 : decode cX4_save 7 = .ok (.bipush (-2), 2) := by decide +kernel
theorem dX4_save_9 : decode cX4_save 9 = .ok (.ireturn, 1) := by decide +kernel
theorem dX4_save_10 : decode cX4_save 10 = .ok (.iconst 0, 1) := by decide +kernel
theorem dX4_save_11 : decode cX4_save 11 = .ok (.istore_n 2, 1) := by decide +kernel
theorem dX4_save_12 : decode cX4_save 12 = .ok (.iload_n 2, 1) := by decide +kernel
theorem dX4_save_13 : decode cX4_save 13 = .ok (.bipush 86, 2) := by decide +kernel
theorem dX4_save_15 : decode cX4_save 15 = .ok (.if_icmp .ge 26, 3) := by decide +kernel
theorem dX4_save_18 : decode cX4_save 18 = .ok (.aload_n 0, 1) := by decide +kernel
theorem dX4_save_19 : decode cX4_save 19 = .ok (.getfield 19, 3) := by decide +kernel
theorem dX4_save_22 : decode cX4_save 22 = .ok (.bipush 86, 2) := by decide +kernel
theorem dX4_save_24 : decode cX4_save 24 = .ok (.iload_n 1, 1) := by decide +kernel
theorem dX4_save_25 : decode cX4_save 25 = .ok (.imul, 1) := by decide +kernel
theorem dX4_save_26 : decode cX4_save 26 = .ok (.iload_n 2, 1) := by decide +kernel
theorem dX4_save_27 : decode cX4_save 27 = .ok (.iadd, 1) := by decide +kernel
theorem dX4_save_28 : decode cX4_save 28 = .ok (.aload_n 0, 1) := by decide +kernel
theorem dX4_save_29 : decode cX4_save 29 = .ok (.getfield 7, 3) := by decide +kernel
theorem dX4_save_32 : decode cX4_save 32 = .ok (.iload_n 2, 1) := by decide +kernel
theorem dX4_save_33 : decode cX4_save 33 = .ok (.iaload, 1) := by decide +kernel
theorem dX4_save_34 : decode cX4_save 34 = .ok (.iastore, 1) := by decide +kernel
theorem dX4_save_35 : decode cX4_save 35 = .ok (.iinc 2 1, 3) := by decide +kernel
theorem dX4_save_38 : decode cX4_save 38 = .ok (.goto (-26), 3) := by decide +kernel
theorem dX4_save_41 : decode cX4_save 41 = .ok (.aload_n 0, 1) := by decide +kernel
theorem dX4_save_42 : decode cX4_save 42 = .ok (.getfield 22, 3) := by decide +kernel
theorem dX4_save_45 : decode cX4_save 45 = .ok (.iload_n 1, 1) := by decide +kernel
theorem dX4_save_46 : decode cX4_save 46 = .ok (.iconst 1, 1) := by decide +kernel
theorem dX4_save_47 : decode cX4_save 47 = .ok (.iastore, 1) := by decide +kernel
theorem dX4_save_48 : decode cX4_save 48 = .ok (.aload_n 0, 1) := by decide +kernel
theorem dX4_save_49 : decode cX4_save 49 = .ok (.getfield 7, 3) := by decide +kernel
theorem dX4_save_52 : decode cX4_save 52 = .ok (.iconst 4, 1) := by decide +kernel
theorem dX4_save_53 : decode cX4_save 53 = .ok (.iaload, 1) := by decide +kernel
theorem dX4_save_54 : decode cX4_save 54 = .ok (.ireturn, 1) := by decide +kernel
set_option maxRecDepth 20000 in
theorem ggX4_restore_X4_isSlot : GoodIn wsX4_restore wsX4_isSlot := goodIn_r _ [7] (by decide +kernel) (by decide +kernel)
set_option maxRecDepth 20000 in
theorem gX4_restore_X4_isSlot : GoodIn wsX4_restore (va_wsS RX4 169 yX4_isSlot wsX4_isSlot) := goodIn_app (goodIn_of _ (by decide +kernel)) ggX4_restore_X4_isSlot
set_option maxRecDepth 20000 in
theorem ggX4_restore_X4_changes : GoodIn wsX4_restore wsX4_changes := goodIn_r _ [11, 12, 13, 2, 14, 15, 16, 17, 18, 19, 20, 21, 22, 23] (by decide +kernel) (by decide +kernel)
set_option maxRecDepth 20000 in
theorem gX4_restore_X4_changes : GoodIn wsX4_restore (wsV RX4 82 RX4 yX4_changes wsX4_changes) := goodIn_app (goodIn_of _ (by decide +kernel)) ggX4_restore_X4_changes
theorem dX4_restore_0 : decode cX4_restore 0 = .ok (.iload_n 1, 1) := by decide +kernel
theorem dX4_restore_1 : decode cX4_restore 1 = .ok (.invokestatic 169, 3) := by decide +kernel
theorem dX4_restore_4 : decode cX4_restore 4 = .ok (.ifCond .ne 6, 3) := by decide +kernel
theorem dX4_restore_7 : decode cX4_restore 7 = .ok (.bipush (-2), 2) := by decide +kernel
theorem dX4_restore_9 : decode cX4_restore 9 = .ok (.ireturn, 1) := by decide +kernel
theorem dX4_restore_10 : decode cX4_restore 10 = .ok (.aload_n 0, 1) := by decide +kernel
theorem dX4_restore_11 : decode cX4_restore 11 = .ok (.getfield 22, 3) := by decide +kernel
theorem dX4_restore_14 : decode cX4_restore 14 = .ok (.iload_n 1, 1) := by decide +kernel
theorem dX4_restore_15 : decode cX4_restore 15 = .ok (.iaload, 1) := by decide +kernel
theorem dX4_restore_16 : decode cX4_restore 16 = .ok (.ifCond .ne 6, 3) := by decide +kernel
theorem dX4_restore_19 : decode cX4_restore 19 = .ok (.bipush (-5), 2) := by decide +kernel
theorem dX4_restore_21 : decode cX4_restore 21 = .ok (.ireturn, 1) := by decide +kernel
theorem dX4_restore_22 : decode cX4_restore 22 = .ok (.aload_n 0, 1) := by decide +kernel
theorem dX4_restore_23 : decode cX4_restore 23 = .ok (.invokevirtual 82, 3) := by decide +kernel
theorem dX4_restore_26 : decode cX4_restore 26 = .ok (.iconst 0, 1) := by decide +kernel
theorem dX4_restore_27 : decode cX4_restore 27 = .ok (.istore_n 2, 1) := by decide +kernel
theorem dX4_restore_28 : decode cX4_restore 28 = .ok (.iload_n 2, 1) := by decide +kernel
theorem dX4_restore_29 : decode cX4_restore 29 = .ok (.bipush 86, 2) := by decide +kernel
theorem dX4_restore_31 : decode cX4_restore 31 = .ok (.if_icmp .ge 26, 3) := by decide +kernel
theorem dX4_restore_34 : decode cX4_restore 34 = .ok (.aload_n 0, 1) := by decide +kernel
theorem dX4_restore_35 : decode cX4_restore 35 = .ok (.getfield 7, 3) := by decide +kernel
theorem dX4_restore_38 : decode cX4_restore 38 = .ok (.iload_n 2, 1) := by decide +kernel
theorem dX4_restore_39 : decode cX4_restore 39 = .ok (.aload_n 0, 1) := by decide +kernel
theorem dX4_restore_40 : decode cX4_restore 40 = .ok (.getfield 19, 3) := by decide +kernel
theorem dX4_restore_43 : decode cX4_restore 43 = .ok (.bipush 86, 2) := by decide +kernel
theorem dX4_restore_45 : decode cX4_restore 45 = .ok (.iload_n 1, 1) := by decide +kernel
theorem dX4_restore_46 : decode cX4_restore 46 = .ok (.imul, 1) := by decide +kernel
theorem dX4_restore_47 : decode cX4_restore 47 = .ok (.iload_n 2, 1) := by decide +kernel
theorem dX4_restore_48 : decode cX4_restore 48 = .ok (.iadd, 1) := by decide +kernel
theorem dX4_restore_49 : decode cX4_restore 49 = .ok (.iaload, 1) := by decide +kernel
theorem dX4_restore_50 : decode cX4_restore 50 = .ok (.iastore, 1) := by decide +kernel
theorem dX4_restore_51 : decode cX4_restore 51 = .ok (.iinc 2 1, 3) := by decide +kernel
theorem dX4_restore_54 : decode cX4_restore 54 = .ok (.goto (-26), 3) := by decide +kernel
theorem dX4_restore_57 : decode cX4_restore 57 = .ok (.aload_n 0, 1) := by decide +kernel
theorem dX4_restore_58 : decode cX4_restore 58 = .ok (.getfield 7, 3) := by decide +kernel
theorem dX4_restore_61 : decode cX4_restore 61 = .ok (.iconst 4, 1) := by decide +kernel
theorem dX4_restore_62 : decode cX4_restore 62 = .ok (.iaload, 1) := by decide +kernel
theorem dX4_restore_63 : decode cX4_restore 63 = .ok (.ireturn, 1) := by decide +kernel
end
section
set_option maxRecDepth 20000 in
theorem in_wsL_law_r1 : ∀ w ∈ wsL_law_r1, w ∈ lw_tbl := fun w h => (goodIn_r (big := lw_tbl) wsL_law_r1 [40, 41, 32, 374, 375, 36, 618, 42, 43, 44, 45, 46, 47, 48, 49, 33, 98, 99, 63, 64, 34, 100, 78, 79] (by decide +kernel) (by decide +kernel) w h).1
set_option maxRecDepth 20000 in
theorem in_wsL_law_r2 : ∀ w ∈ wsL_law_r2, w ∈ lw_tbl := fun w h => (goodIn_r (big := lw_tbl) wsL_law_r2 [35, 101, 97, 62, 102, 117, 103, 50, 51, 52, 53, 57, 54, 55, 56, 66, 67, 68, 77, 69, 70, 81, 82, 83] (by decide +kernel) (by decide +kernel) w h).1
set_option maxRecDepth 20000 in
theorem in_wsL_law_r3 : ∀ w ∈ wsL_law_r3, w ∈ lw_tbl := fun w h => (goodIn_r (big := lw_tbl) wsL_law_r3 [84, 86, 87, 88, 376, 377, 378, 379, 384, 385, 386, 388, 389, 390, 380, 382, 7, 383, 118, 119, 120, 121, 122, 124] (by decide +kernel) (by decide +kernel) w h).1
set_option maxRecDepth 20000 in
theorem in_wsL_law_r4 : ∀ w ∈ wsL_law_r4, w ∈ lw_tbl := fun w h => (goodIn_r (big := lw_tbl) wsL_law_r4 [58, 126, 127, 128, 129, 136, 137, 38, 138, 131, 132, 133, 135, 134, 37, 415, 416, 417, 418, 419, 420, 421, 422, 426] (by decide +kernel) (by decide +kernel) w h).1
set_option maxRecDepth 20000 in
theorem in_wsL_law_r5 : ∀ w ∈ wsL_law_r5, w ∈ lw_tbl := fun w h => (goodIn_r (big := lw_tbl) wsL_law_r5 [427, 423, 424, 425, 428, 430, 8, 431, 387, 139, 140, 141, 142, 143, 144, 145, 146, 147, 148, 149, 150, 152, 154, 0] (by decide +kernel) (by decide +kernel) w h).1
set_option maxRecDepth 20000 in
theorem in_wsL_law_r6 : ∀ w ∈ wsL_law_r6, w ∈ lw_tbl := fun w h => (goodIn_r (big := lw_tbl) wsL_law_r6 [155, 156, 158, 1, 159, 160, 162, 2, 163, 164, 166, 3, 167, 168, 169, 170, 171, 172, 174, 4, 175, 432, 433, 434] (by decide +kernel) (by decide +kernel) w h).1
set_option maxRecDepth 20000 in
theorem in_wsL_law_r7 : ∀ w ∈ wsL_law_r7, w ∈ lw_tbl := fun w h => (goodIn_r (big := lw_tbl) wsL_law_r7 [435, 440, 436, 437, 438, 439, 441, 443, 9, 444, 445, 447, 10, 448, 449, 450, 451, 452, 454, 11, 455, 456, 458, 12] (by decide +kernel) (by decide +kernel) w h).1
set_option maxRecDepth 20000 in
theorem in_wsL_law_r8 : ∀ w ∈ wsL_law_r8, w ∈ lw_tbl := fun w h => (goodIn_r (big := lw_tbl) wsL_law_r8 [459, 460, 462, 13, 463, 464, 466, 14, 467, 468, 470, 15, 471, 472, 474, 16, 475, 476, 478, 17, 479, 176, 177, 178] (by decide +kernel) (by decide +kernel) w h).1
set_option maxRecDepth 20000 in
theorem in_wsL_law_r9 : ∀ w ∈ wsL_law_r9, w ∈ lw_tbl := fun w h => (goodIn_r (big := lw_tbl) wsL_law_r9 [179, 180, 181, 182, 183, 184, 185, 186, 187, 188, 189, 190, 191, 192, 193, 194, 195, 196, 197, 198, 199, 200, 201, 202] (by decide +kernel) (by decide +kernel) w h).1
set_option maxRecDepth 20000 in
theorem in_wsL_law_r10 : ∀ w ∈ wsL_law_r10, w ∈ lw_tbl := fun w h => (goodIn_r (big := lw_tbl) wsL_law_r10 [203, 204, 205, 206, 39, 207, 208, 209, 210, 480, 481, 482, 483, 484, 485, 486, 488, 18, 489, 490, 491, 492, 211, 212] (by decide +kernel) (by decide +kernel) w h).1
set_option maxRecDepth 20000 in
theorem in_wsL_law_r11 : ∀ w ∈ wsL_law_r11, w ∈ lw_tbl := fun w h => (goodIn_r (big := lw_tbl) wsL_law_r11 [213, 214, 215, 216, 217, 218, 219, 220, 221, 222, 223, 224, 225, 226, 227, 228, 229, 230, 231, 232, 233, 234, 235, 236] (by decide +kernel) (by decide +kernel) w h).1
set_option maxRecDepth 20000 in
theorem in_wsL_law_r12 : ∀ w ∈ wsL_law_r12, w ∈ lw_tbl := fun w h => (goodIn_r (big := lw_tbl) wsL_law_r12 [237, 238, 240, 5, 241, 242, 243, 244, 245, 246, 247, 249, 6, 250, 252, 253, 254, 255, 256, 599, 600, 601, 602, 391] (by decide +kernel) (by decide +kernel) w h).1
set_option maxRecDepth 20000 in
theorem in_wsL_law_r13 : ∀ w ∈ wsL_law_r13, w ∈ lw_tbl := fun w h => (goodIn_r (big := lw_tbl) wsL_law_r13 [540, 541, 542, 543, 392, 544, 546, 23, 547, 548, 550, 24, 551, 552, 554, 25, 555, 556, 558, 26, 559, 393, 560, 562] (by decide +kernel) (by decide +kernel) w h).1
set_option maxRecDepth 20000 in
theorem in_wsL_law_r14 : ∀ w ∈ wsL_law_r14, w ∈ lw_tbl := fun w h => (goodIn_r (big := lw_tbl) wsL_law_r14 [27, 563, 568, 570, 29, 571, 257, 258, 259, 260, 261, 493, 494, 495, 496, 262, 263, 264, 265, 266, 267, 268, 269, 270] (by decide +kernel) (by decide +kernel) w h).1
set_option maxRecDepth 20000 in
theorem in_wsL_law_r15 : ∀ w ∈ wsL_law_r15, w ∈ lw_tbl := fun w h => (goodIn_r (big := lw_tbl) wsL_law_r15 [497, 498, 499, 500, 271, 272, 273, 274, 275, 276, 277, 278, 279, 280, 281, 282, 283, 284, 285, 286, 501, 502, 503, 504] (by decide +kernel) (by decide +kernel) w h).1
set_option maxRecDepth 20000 in
theorem in_wsL_law_r16 : ∀ w ∈ wsL_law_r16, w ∈ lw_tbl := fun w h => (goodIn_r (big := lw_tbl) wsL_law_r16 [505, 507, 19, 508, 287, 288, 289, 290, 71, 89, 291, 292, 293, 294, 295, 296, 297, 298, 509, 510, 511, 512, 513, 514] (by decide +kernel) (by decide +kernel) w h).1
set_option maxRecDepth 20000 in
theorem in_wsL_law_r17 : ∀ w ∈ wsL_law_r17, w ∈ lw_tbl := fun w h => (goodIn_r (big := lw_tbl) wsL_law_r17 [515, 516, 518, 20, 519, 520, 522, 21, 523, 299, 300, 301, 302, 303, 304, 305, 306, 524, 525, 526, 527, 528, 530, 22] (by decide +kernel) (by decide +kernel) w h).1
set_option maxRecDepth 20000 in
theorem in_wsL_law_r18 : ∀ w ∈ wsL_law_r18, w ∈ lw_tbl := fun w h => (goodIn_r (big := lw_tbl) wsL_law_r18 [531, 307, 308, 309, 310, 532, 533, 534, 535, 311, 312, 313, 314, 315, 536, 537, 538, 539, 564, 566, 28, 567, 572, 574] (by decide +kernel) (by decide +kernel) w h).1
set_option maxRecDepth 20000 in
theorem in_wsL_law_r19 : ∀ w ∈ wsL_law_r19, w ∈ lw_tbl := fun w h => (goodIn_r (big := lw_tbl) wsL_law_r19 [30, 575, 316, 317, 318, 319, 322, 323, 324, 320, 321, 576, 577, 578, 579, 325, 326, 327, 328, 329, 330, 580, 581, 582] (by decide +kernel) (by decide +kernel) w h).1
set_option maxRecDepth 20000 in
theorem in_wsL_law_r20 : ∀ w ∈ wsL_law_r20, w ∈ lw_tbl := fun w h => (goodIn_r (big := lw_tbl) wsL_law_r20 [583, 331, 332, 333, 334, 335, 336, 337, 338, 339, 340, 341, 342, 343, 344, 345, 346, 584, 585, 586, 587, 591, 588, 589] (by decide +kernel) (by decide +kernel) w h).1
set_option maxRecDepth 20000 in
theorem in_wsL_law_r21 : ∀ w ∈ wsL_law_r21, w ∈ lw_tbl := fun w h => (goodIn_r (big := lw_tbl) wsL_law_r21 [590, 592, 593, 347, 348, 349, 350, 594, 595, 596, 597, 351, 352, 353, 354, 598, 355, 356, 357, 358, 359, 360, 361, 362] (by decide +kernel) (by decide +kernel) w h).1
set_option maxRecDepth 20000 in
theorem in_wsL_law_r22 : ∀ w ∈ wsL_law_r22, w ∈ lw_tbl := fun w h => (goodIn_r (big := lw_tbl) wsL_law_r22 [603, 604, 605, 606, 363, 364, 365, 366, 367, 368, 369, 607, 608, 609, 610, 611, 612, 613, 370, 371, 372, 373, 614, 615] (by decide +kernel) (by decide +kernel) w h).1
set_option maxRecDepth 20000 in
theorem in_wsL_law_r23 : ∀ w ∈ wsL_law_r23, w ∈ lw_tbl := fun w h => (goodIn_r (big := lw_tbl) wsL_law_r23 [616, 617] (by decide +kernel) (by decide +kernel) w h).1
set_option maxRecDepth 20000 in
theorem in_wsX00 : ∀ w ∈ wsX00, w ∈ lw_tbl := fun w h => (goodIn_r (big := lw_tbl) wsX00 [59] (by decide +kernel) (by decide +kernel) w h).1
set_option maxRecDepth 20000 in
theorem in_wsX10 : ∀ w ∈ wsX10, w ∈ lw_tbl := fun w h => (goodIn_r (big := lw_tbl) wsX10 [90, 92, 94] (by decide +kernel) (by decide +kernel) w h).1
set_option maxRecDepth 20000 in
theorem in_wsX20 : ∀ w ∈ wsX20, w ∈ lw_tbl := fun w h => (goodIn_r (big := lw_tbl) wsX20 [72, 74] (by decide +kernel) (by decide +kernel) w h).1
set_option maxRecDepth 20000 in
theorem in_wsX30 : ∀ w ∈ wsX30, w ∈ lw_tbl := fun w h => (goodIn_r (big := lw_tbl) wsX30 [104, 106, 108, 110, 112, 114] (by decide +kernel) (by decide +kernel) w h).1
set_option maxRecDepth 20000 in
theorem in_wsX40 : ∀ w ∈ wsX40, w ∈ lw_tbl := fun w h => (goodIn_r (big := lw_tbl) wsX40 [394, 396, 398, 400, 402, 404, 406, 408, 410, 412] (by decide +kernel) (by decide +kernel) w h).1
theorem wsL_law_in : ∀ w ∈ wsL_law, w ∈ lw_tbl := List.forall_mem_append.mpr ⟨(List.forall_mem_append.mpr ⟨(List.forall_mem_append.mpr ⟨(List.forall_mem_append.mpr ⟨(List.forall_mem_append.mpr ⟨(List.forall_mem_append.mpr ⟨(List.forall_mem_append.mpr ⟨in_wsL_law_r1, (List.forall_mem_append.mpr ⟨in_wsL_law_r2, (List.forall_mem_append.mpr ⟨in_wsL_law_r3, (List.forall_mem_append.mpr ⟨in_wsL_law_r4, (List.forall_mem_append.mpr ⟨in_wsL_law_r5, (List.forall_mem_append.mpr ⟨in_wsL_law_r6, (List.forall_mem_append.mpr ⟨in_wsL_law_r7, (List.forall_mem_append.mpr ⟨in_wsL_law_r8, (List.forall_mem_append.mpr ⟨in_wsL_law_r9, (List.forall_mem_append.mpr ⟨in_wsL_law_r10, (List.forall_mem_append.mpr ⟨in_wsL_law_r11, (List.forall_mem_append.mpr ⟨in_wsL_law_r12, (List.forall_mem_append.mpr ⟨in_wsL_law_r13, (List.forall_mem_append.mpr ⟨in_wsL_law_r14, (List.forall_mem_append.mpr ⟨in_wsL_law_r15, (List.forall_mem_append.mpr ⟨in_wsL_law_r16, (List.forall_mem_append.mpr ⟨in_wsL_law_r17, (List.forall_mem_append.mpr ⟨in_wsL_law_r18, (List.forall_mem_append.mpr ⟨in_wsL_law_r19, (List.forall_mem_append.mpr ⟨in_wsL_law_r20, (List.forall_mem_append.mpr ⟨in_wsL_law_r21, (List.forall_mem_append.mpr ⟨in_wsL_law_r22, in_wsL_law_r23⟩)⟩)⟩)⟩)⟩)⟩)⟩)⟩)⟩)⟩)⟩)⟩)⟩)⟩)⟩)⟩)⟩)⟩)⟩)⟩)⟩)⟩), in_wsX30⟩), in_wsX40⟩), in_wsX00⟩), in_wsX20⟩), in_wsX10⟩), fun _ h => absurd h List.not_mem_nil⟩
theorem inlX0 : ∀ w ∈ wsX00, w ∈ wsL_law := fun _ h => List.mem_append_left _ (List.mem_append_left _ (List.mem_append_left _ (List.mem_append_right _ h)))
theorem inX0 : ∀ w ∈ wsX00, w ∈ lw_tbl := fun w h => wsL_law_in w (inlX0 w h)
theorem inlX1 : ∀ w ∈ wsX10, w ∈ wsL_law := fun _ h => List.mem_append_left _ (List.mem_append_right _ h)
theorem inX1 : ∀ w ∈ wsX10, w ∈ lw_tbl := fun w h => wsL_law_in w (inlX1 w h)
theorem inlX2 : ∀ w ∈ wsX20, w ∈ wsL_law := fun _ h => List.mem_append_left _ (List.mem_append_left _ (List.mem_append_right _ h))
theorem inX2 : ∀ w ∈ wsX20, w ∈ lw_tbl := fun w h => wsL_law_in w (inlX2 w h)
theorem inlX3 : ∀ w ∈ wsX30, w ∈ wsL_law := fun _ h => List.mem_append_left _ (List.mem_append_left _ (List.mem_append_left _ (List.mem_append_left _ (List.mem_append_left _ (List.mem_append_right _ h)))))
theorem inX3 : ∀ w ∈ wsX30, w ∈ lw_tbl := fun w h => wsL_law_in w (inlX3 w h)
theorem inlX4 : ∀ w ∈ wsX40, w ∈ wsL_law := fun _ h => List.mem_append_left _ (List.mem_append_left _ (List.mem_append_left _ (List.mem_append_left _ (List.mem_append_right _ h))))
theorem inX4 : ∀ w ∈ wsX40, w ∈ lw_tbl := fun w h => wsL_law_in w (inlX4 w h)
theorem inJ6 : ∀ w ∈ wsJ60, w ∈ lw_tbl := by decide +kernel
theorem inJ9 : ∀ w ∈ wsJ90, w ∈ lw_tbl := by decide +kernel
theorem inJ10 : ∀ w ∈ wsJ100, w ∈ lw_tbl := by decide +kernel
set_option maxRecDepth 20000 in
theorem ggL_law_X3_init : GoodIn wsL_law wsX3_init := goodIn_r _ [9, 10, 11, 12, 13, 14, 15, 16, 17, 18, 19, 20, 21, 22, 23, 24, 25, 26, 27, 28, 29, 30, 31, 32, 33, 34, 35, 36, 37, 38, 39, 40, 41, 42, 43, 44, 45, 46, 47, 48, 49, 50, 51, 546, 530, 531, 532, 533, 534, 535, 547, 548, 549, 550, 551] (by decide +kernel) (by decide +kernel)
set_option maxRecDepth 20000 in
theorem gL_law_X3_init : GoodIn wsL_law (wsX3_init) := ggL_law_X3_init
set_option maxRecDepth 20000 in
theorem ggL_law_X4_init : GoodIn wsL_law wsX4_init := goodIn_r _ [54, 55, 11, 12, 27, 56, 57, 58, 59, 60, 61, 62, 63, 64, 5, 65, 536, 537, 538, 539, 540, 541, 542, 543, 544, 545] (by decide +kernel) (by decide +kernel)
set_option maxRecDepth 20000 in
theorem gL_law_X4_init : GoodIn wsL_law (wsX4_init) := ggL_law_X4_init
set_option maxRecDepth 20000 in
theorem ggL_law_X3_set : GoodIn wsL_law wsX3_set := goodIn_r _ [69, 70, 71, 25, 16, 72, 73, 74, 75, 24, 76, 49, 50, 51, 77, 78, 79, 80, 81, 2, 82, 83, 84, 85, 86, 530, 531, 532, 533, 534, 535, 546, 549, 550, 551] (by decide +kernel) (by decide +kernel)
set_option maxRecDepth 20000 in
theorem gL_law_X3_set : GoodIn wsL_law (wsV RL 13 RX3 yX3_set wsX3_set) := goodIn_app (goodIn_of _ (by decide +kernel)) ggL_law_X3_set
set_option maxRecDepth 20000 in
theorem ggL_law_X4_set : GoodIn wsL_law wsX4_set := goodIn_r _ [90, 56, 91, 92, 5, 93, 94, 95, 96, 97, 98, 99, 100, 101, 102, 103, 104, 58, 536, 537, 538, 539, 540, 541, 542, 543, 544, 545] (by decide +kernel) (by decide +kernel)
set_option maxRecDepth 20000 in
theorem gL_law_X4_set : GoodIn wsL_law (wsV RL 17 RX4 yX4_set wsX4_set) := goodIn_app (goodIn_of _ (by decide +kernel)) ggL_law_X4_set
set_option maxRecDepth 20000 in
theorem ggL_law_X3_event : GoodIn wsL_law wsX3_event := goodIn_r _ [108, 25, 16, 72, 109, 110, 2, 111, 73, 74, 75, 24, 76, 49, 50, 51, 77, 78, 79, 80, 81, 82, 83, 84, 85, 86, 112, 113, 114, 15, 115, 35, 116, 36, 37, 38, 117, 118, 119, 120, 121, 122, 123, 124, 125, 126, 127, 128, 129, 130, 131, 132, 133, 134, 135, 136, 137, 138, 139, 140, 530, 531, 532, 533, 534, 535, 546, 549, 550, 551] (by decide +kernel) (by decide +kernel)
set_option maxRecDepth 20000 in
theorem gL_law_X3_event : GoodIn wsL_law (wsV RL 18 RX3 yX3_event wsX3_event) := goodIn_app (goodIn_of _ (by decide +kernel)) ggL_law_X3_event
set_option maxRecDepth 20000 in
theorem ggL_law_X4_event : GoodIn wsL_law wsX4_event := goodIn_r _ [144, 145, 146, 147, 5, 148, 149, 97, 98, 99, 100, 101, 102, 103, 104, 58, 56, 150, 151, 152, 153, 154, 155, 156, 157, 158, 159, 160, 161, 162, 163, 164, 62, 63, 64, 65, 165, 166, 167, 168, 169, 170, 171, 172, 173, 174, 175, 176, 177, 178, 179, 180, 181, 182, 183, 184, 185, 186, 187, 188, 536, 537, 538, 539, 540, 541, 542, 543, 544, 545] (by decide +kernel) (by decide +kernel)
set_option maxRecDepth 20000 in
theorem gL_law_X4_event : GoodIn wsL_law (wsV RL 21 RX4 yX4_event wsX4_event) := goodIn_app (goodIn_of _ (by decide +kernel)) ggL_law_X4_event
set_option maxRecDepth 20000 in
theorem ggL_law_X3_pass : GoodIn wsL_law wsX3_pass := goodIn_r _ [192, 16, 25, 72, 193, 194, 195, 15, 196, 35, 197, 73, 74, 75, 24, 76, 49, 50, 51, 77, 78, 79, 80, 81, 2, 82, 83, 84, 85, 86, 198, 199, 200, 201, 202, 203, 204, 205, 206, 207, 208, 209, 210, 211, 212, 213, 36, 37, 38, 214, 215, 216, 217, 218, 219, 220, 221, 222, 223, 224, 530, 531, 532, 533, 534, 535, 546, 549, 550, 551] (by decide +kernel) (by decide +kernel)
set_option maxRecDepth 20000 in
theorem gL_law_X3_pass : GoodIn wsL_law (wsV RL 22 RX3 yX3_pass wsX3_pass) := goodIn_app (goodIn_of _ (by decide +kernel)) ggL_law_X3_pass
set_option maxRecDepth 20000 in
theorem ggL_law_X4_pass : GoodIn wsL_law wsX4_pass := goodIn_r _ [228, 229, 56, 230, 97, 98, 5, 99, 100, 101, 102, 103, 104, 58, 231, 232, 233, 234, 173, 174, 175, 176, 161, 162, 163, 164, 154, 155, 156, 157, 235, 236, 237, 536, 537, 538, 539, 540, 541, 542, 543, 544, 545] (by decide +kernel) (by decide +kernel)
set_option maxRecDepth 20000 in
theorem gL_law_X4_pass : GoodIn wsL_law (wsV RL 26 RX4 yX4_pass wsX4_pass) := goodIn_app (goodIn_of _ (by decide +kernel)) ggL_law_X4_pass
set_option maxRecDepth 20000 in
theorem ggL_law_X3_read : GoodIn wsL_law wsX3_read := goodIn_r _ [241, 21, 25, 16, 72, 242, 243, 244, 20, 245, 44, 43, 246, 247, 248, 249, 250, 251, 252, 253, 254, 255, 256, 257, 258, 259, 260, 73, 74, 75, 24, 76, 49, 50, 51, 77, 78, 79, 80, 81, 2, 82, 83, 84, 85, 86, 261, 262, 263, 264, 265, 266, 267, 268, 269, 270, 271, 272, 194, 195, 15, 196, 35, 197, 273, 199, 200, 201, 274, 275, 276, 277, 110, 111, 278, 113, 114, 115, 116, 36, 37, 38, 117, 118, 119, 120, 121, 122, 123, 124, 125, 126, 127, 128, 129, 130, 131, 132, 133, 134, 135, 136, 137, 138, 139, 140, 279, 280, 281, 282, 530, 531, 532, 533, 534, 535, 546, 547, 548, 549, 550, 551] (by decide +kernel) (by decide +kernel)
set_option maxRecDepth 20000 in
theorem gL_law_X3_read : GoodIn wsL_law (wsV RL 27 RX3 yX3_read wsX3_read) := goodIn_app (goodIn_of _ (by decide +kernel)) ggL_law_X3_read
set_option maxRecDepth 20000 in
theorem ggL_law_X4_read : GoodIn wsL_law wsX4_read := goodIn_r _ [286, 287, 288, 289, 290, 5, 291, 292, 293, 294, 295, 296, 297, 298, 299, 300, 301, 302, 303, 304, 61, 97, 98, 99, 305, 306, 307, 308, 309, 310, 311, 312, 313, 100, 101, 102, 103, 104, 58, 56, 314, 315, 316, 317, 230, 150, 151, 152, 153, 154, 155, 156, 157, 158, 159, 160, 161, 162, 163, 164, 62, 63, 64, 65, 165, 166, 167, 168, 169, 170, 171, 172, 173, 174, 175, 176, 177, 178, 179, 180, 181, 182, 183, 184, 185, 186, 187, 188, 536, 537, 538, 539, 540, 541, 542, 543, 544, 545] (by decide +kernel) (by decide +kernel)
set_option maxRecDepth 20000 in
theorem gL_law_X4_read : GoodIn wsL_law (wsV RL 31 RX4 yX4_read wsX4_read) := goodIn_app (goodIn_of _ (by decide +kernel)) ggL_law_X4_read
set_option maxRecDepth 20000 in
theorem ggL_law_X3_correct : GoodIn wsL_law wsX3_correct := goodIn_r _ [321, 25, 16, 72, 73, 74, 75, 24, 76, 49, 50, 51, 77, 78, 79, 80, 81, 2, 82, 83, 84, 85, 86, 322, 134, 135, 15, 136, 35, 530, 531, 532, 533, 534, 535, 546, 549, 550, 551] (by decide +kernel) (by decide +kernel)
set_option maxRecDepth 20000 in
theorem gL_law_X3_correct : GoodIn wsL_law (wsV RL 32 RX3 yX3_correct wsX3_correct) := goodIn_app (goodIn_of _ (by decide +kernel)) ggL_law_X3_correct
set_option maxRecDepth 20000 in
theorem ggL_law_X4_correct : GoodIn wsL_law wsX4_correct := goodIn_r _ [326, 229, 56, 97, 98, 5, 99, 100, 101, 102, 103, 104, 58, 536, 537, 538, 539, 540, 541, 542, 543, 544, 545] (by decide +kernel) (by decide +kernel)
set_option maxRecDepth 20000 in
theorem gL_law_X4_correct : GoodIn wsL_law (wsV RL 35 RX4 yX4_correct wsX4_correct) := goodIn_app (goodIn_of _ (by decide +kernel)) ggL_law_X4_correct
set_option maxRecDepth 20000 in
theorem ggL_law_X3_clear : GoodIn wsL_law wsX3_clear := goodIn_r _ [330, 16, 25, 72, 109, 110, 2, 111, 331, 211, 212, 15, 213, 35, 36, 37, 38, 73, 74, 75, 24, 76, 49, 50, 51, 77, 78, 79, 80, 81, 82, 83, 84, 85, 86, 332, 333, 334, 335, 121, 122, 123, 124, 125, 126, 127, 128, 129, 130, 131, 132, 133, 134, 135, 136, 137, 138, 139, 140, 530, 531, 532, 533, 534, 535, 546, 549, 550, 551] (by decide +kernel) (by decide +kernel)
set_option maxRecDepth 20000 in
theorem gL_law_X3_clear : GoodIn wsL_law (wsV RL 36 RX3 yX3_clear wsX3_clear) := goodIn_app (goodIn_of _ (by decide +kernel)) ggL_law_X3_clear
set_option maxRecDepth 20000 in
theorem ggL_law_X4_clear : GoodIn wsL_law wsX4_clear := goodIn_r _ [339, 146, 147, 5, 148, 149, 97, 98, 99, 161, 162, 163, 164, 154, 155, 156, 157, 56, 100, 101, 102, 103, 104, 58, 169, 170, 171, 172, 165, 166, 167, 168, 173, 174, 175, 176, 177, 178, 179, 180, 62, 63, 64, 65, 181, 182, 183, 184, 185, 186, 187, 188, 536, 537, 538, 539, 540, 541, 542, 543, 544, 545] (by decide +kernel) (by decide +kernel)
set_option maxRecDepth 20000 in
theorem gL_law_X4_clear : GoodIn wsL_law (wsV RL 39 RX4 yX4_clear wsX4_clear) := goodIn_app (goodIn_of _ (by decide +kernel)) ggL_law_X4_clear
set_option maxRecDepth 20000 in
theorem ggL_law_X3_gate : GoodIn wsL_law wsX3_gate := goodIn_r _ [343, 16, 109, 110, 2, 111, 344, 345, 346, 15, 347, 35, 210, 211, 212, 213, 36, 37, 38, 348, 349, 350, 351, 352, 353, 354, 355, 206, 207, 208, 209, 214, 215, 216, 217, 530, 531, 532, 533, 534, 535, 546] (by decide +kernel) (by decide +kernel)
set_option maxRecDepth 20000 in
theorem gL_law_X3_gate : GoodIn wsL_law (wsV RL 40 RX3 yX3_gate wsX3_gate) := goodIn_app (goodIn_of _ (by decide +kernel)) ggL_law_X3_gate
set_option maxRecDepth 20000 in
theorem ggL_law_X4_gate : GoodIn wsL_law wsX4_gate := goodIn_r _ [359, 146, 147, 5, 148, 149, 97, 98, 99, 154, 155, 156, 157, 56, 360, 361, 362, 363, 161, 162, 163, 164, 173, 174, 175, 176, 536, 537, 538, 539, 540, 541, 542, 543, 544, 545] (by decide +kernel) (by decide +kernel)
set_option maxRecDepth 20000 in
theorem gL_law_X4_gate : GoodIn wsL_law (wsV RL 43 RX4 yX4_gate wsX4_gate) := goodIn_app (goodIn_of _ (by decide +kernel)) ggL_law_X4_gate
set_option maxRecDepth 20000 in
theorem ggL_law_X3_count : GoodIn wsL_law wsX3_count := goodIn_r _ [367, 16, 72, 21, 368, 25, 369, 202, 203, 204, 15, 205, 206, 207, 208, 209, 35, 210, 211, 212, 213, 36, 37, 38, 214, 215, 216, 217, 370, 371, 372, 373, 374, 375, 376, 377, 530, 531, 532, 533, 534, 535, 546, 547, 548, 549, 550, 551] (by decide +kernel) (by decide +kernel)
set_option maxRecDepth 20000 in
theorem gL_law_X3_count : GoodIn wsL_law (wsV RL 44 RX3 yX3_count wsX3_count) := goodIn_app (goodIn_of _ (by decide +kernel)) ggL_law_X3_count
set_option maxRecDepth 20000 in
theorem ggL_law_X4_count : GoodIn wsL_law wsX4_count := goodIn_r _ [381, 382, 56, 383, 384, 287, 104, 97, 98, 5, 99, 385, 386, 387, 388, 154, 155, 156, 157, 231, 232, 233, 234, 173, 174, 175, 176, 161, 162, 163, 164, 389, 390, 391, 392, 536, 537, 538, 539, 540, 541, 542, 543, 544, 545] (by decide +kernel) (by decide +kernel)
set_option maxRecDepth 20000 in
theorem gL_law_X4_count : GoodIn wsL_law (wsV RL 47 RX4 yX4_count wsX4_count) := goodIn_app (goodIn_of _ (by decide +kernel)) ggL_law_X4_count
set_option maxRecDepth 20000 in
theorem ggL_law_X3_mean : GoodIn wsL_law wsX3_mean := goodIn_r _ [396, 16, 109, 110, 2, 111, 397, 398, 399, 15, 400, 35, 36, 37, 38, 344, 345, 346, 347, 210, 211, 212, 213, 348, 349, 350, 351, 352, 353, 354, 355, 206, 207, 208, 209, 214, 215, 216, 217, 530, 531, 532, 533, 534, 535, 546] (by decide +kernel) (by decide +kernel)
set_option maxRecDepth 20000 in
theorem gL_law_X3_mean : GoodIn wsL_law (wsV RL 48 RX3 yX3_mean wsX3_mean) := goodIn_app (goodIn_of _ (by decide +kernel)) ggL_law_X3_mean
set_option maxRecDepth 20000 in
theorem ggL_law_X4_mean : GoodIn wsL_law wsX4_mean := goodIn_r _ [404, 146, 147, 5, 148, 149, 97, 98, 99, 405, 406, 407, 408, 154, 155, 156, 157, 56, 536, 537, 538, 539, 540, 541, 542, 543, 544, 545] (by decide +kernel) (by decide +kernel)
set_option maxRecDepth 20000 in
theorem gL_law_X4_mean : GoodIn wsL_law (wsV RL 51 RX4 yX4_mean wsX4_mean) := goodIn_app (goodIn_of _ (by decide +kernel)) ggL_law_X4_mean
set_option maxRecDepth 20000 in
theorem ggL_law_X3_busiest : GoodIn wsL_law wsX3_busiest := goodIn_r _ [412, 16, 397, 398, 399, 15, 400, 35, 36, 37, 38, 530, 531, 532, 533, 534, 535, 546] (by decide +kernel) (by decide +kernel)
set_option maxRecDepth 20000 in
theorem gL_law_X3_busiest : GoodIn wsL_law (wsV RL 52 RX3 yX3_busiest wsX3_busiest) := goodIn_app (goodIn_of _ (by decide +kernel)) ggL_law_X3_busiest
set_option maxRecDepth 20000 in
theorem ggL_law_X4_busiest : GoodIn wsL_law wsX4_busiest := goodIn_r _ [416, 405, 406, 407, 5, 408, 154, 155, 156, 157, 56, 536, 537, 538, 539, 540, 541, 542, 543, 544, 545] (by decide +kernel) (by decide +kernel)
set_option maxRecDepth 20000 in
theorem gL_law_X4_busiest : GoodIn wsL_law (wsV RL 55 RX4 yX4_busiest wsX4_busiest) := goodIn_app (goodIn_of _ (by decide +kernel)) ggL_law_X4_busiest
set_option maxRecDepth 20000 in
theorem ggL_law_X3_ifRead : GoodIn wsL_law wsX3_ifRead := goodIn_r _ [420, 21, 16, 72, 17, 242, 243, 244, 20, 245, 44, 43, 246, 247, 248, 249, 250, 251, 252, 253, 254, 255, 256, 257, 258, 259, 260, 421, 81, 2, 82, 83, 84, 85, 86, 261, 262, 263, 264, 265, 266, 267, 268, 269, 270, 271, 272, 194, 195, 15, 196, 35, 197, 273, 199, 200, 201, 274, 275, 276, 277, 110, 111, 278, 113, 114, 115, 116, 36, 37, 38, 117, 118, 119, 120, 121, 122, 123, 124, 125, 126, 127, 128, 129, 130, 131, 132, 133, 134, 135, 136, 137, 138, 139, 140, 374, 375, 376, 377, 530, 531, 532, 533, 534, 535, 546, 547, 548] (by decide +kernel) (by decide +kernel)
set_option maxRecDepth 20000 in
theorem gL_law_X3_ifRead : GoodIn wsL_law (wsV RL 56 RX3 yX3_ifRead wsX3_ifRead) := goodIn_app (goodIn_of _ (by decide +kernel)) ggL_law_X3_ifRead
set_option maxRecDepth 20000 in
theorem ggL_law_X4_ifRead : GoodIn wsL_law wsX4_ifRead := goodIn_r _ [425, 149, 56, 288, 289, 290, 5, 291, 292, 287, 293, 294, 295, 296, 297, 298, 299, 300, 301, 302, 303, 304, 61, 97, 98, 99, 305, 306, 307, 308, 309, 310, 311, 312, 313, 385, 386, 387, 388, 154, 155, 156, 157, 426, 427, 428, 429, 57, 314, 315, 316, 317, 230, 150, 151, 152, 153, 158, 159, 160, 161, 162, 163, 164, 62, 63, 64, 65, 165, 166, 167, 168, 169, 170, 171, 172, 173, 174, 175, 176, 177, 178, 179, 180, 181, 182, 183, 184, 185, 186, 187, 188, 430, 431, 432, 433, 536, 537, 538, 539, 540, 541, 542, 543, 544, 545] (by decide +kernel) (by decide +kernel)
set_option maxRecDepth 20000 in
theorem gL_law_X4_ifRead : GoodIn wsL_law (wsV RL 59 RX4 yX4_ifRead wsX4_ifRead) := goodIn_app (goodIn_of _ (by decide +kernel)) ggL_law_X4_ifRead
set_option maxRecDepth 20000 in
theorem ggL_law_X3_eventsTo : GoodIn wsL_law wsX3_eventsTo := goodIn_r _ [437, 16, 438, 439, 79, 440, 109, 110, 2, 111, 331, 211, 212, 15, 213, 35, 36, 37, 38, 441, 349, 350, 351, 442, 353, 354, 355, 530, 531, 532, 533, 534, 535, 546] (by decide +kernel) (by decide +kernel)
set_option maxRecDepth 20000 in
theorem gL_law_X3_eventsTo : GoodIn wsL_law (wsV RL 60 RX3 yX3_eventsTo wsX3_eventsTo) := goodIn_app (goodIn_of _ (by decide +kernel)) ggL_law_X3_eventsTo
set_option maxRecDepth 20000 in
theorem ggL_law_X4_eventsTo : GoodIn wsL_law wsX4_eventsTo := goodIn_r _ [446, 145, 146, 147, 5, 148, 149, 97, 98, 99, 161, 162, 163, 164, 154, 155, 156, 157, 56, 536, 537, 538, 539, 540, 541, 542, 543, 544, 545] (by decide +kernel) (by decide +kernel)
set_option maxRecDepth 20000 in
theorem gL_law_X4_eventsTo : GoodIn wsL_law (wsV RL 63 RX4 yX4_eventsTo wsX4_eventsTo) := goodIn_app (goodIn_of _ (by decide +kernel)) ggL_law_X4_eventsTo
set_option maxRecDepth 20000 in
theorem ggL_law_X3_untilBlocked : GoodIn wsL_law wsX3_untilBlocked := goodIn_r _ [450, 16, 72, 331, 211, 212, 15, 213, 35, 36, 37, 38, 451, 207, 208, 209, 210, 214, 215, 216, 217, 452, 530, 531, 532, 533, 534, 535, 546] (by decide +kernel) (by decide +kernel)
set_option maxRecDepth 20000 in
theorem gL_law_X3_untilBlocked : GoodIn wsL_law (wsV RL 64 RX3 yX3_untilBlocked wsX3_untilBlocked) := goodIn_app (goodIn_of _ (by decide +kernel)) ggL_law_X3_untilBlocked
set_option maxRecDepth 20000 in
theorem ggL_law_X4_untilBlocked : GoodIn wsL_law wsX4_untilBlocked := goodIn_r _ [456, 56, 154, 155, 156, 5, 157, 161, 162, 163, 164, 536, 537, 538, 539, 540, 541, 542, 543, 544, 545] (by decide +kernel) (by decide +kernel)
set_option maxRecDepth 20000 in
theorem gL_law_X4_untilBlocked : GoodIn wsL_law (wsV RL 67 RX4 yX4_untilBlocked wsX4_untilBlocked) := goodIn_app (goodIn_of _ (by decide +kernel)) ggL_law_X4_untilBlocked
set_option maxRecDepth 20000 in
theorem ggL_law_X3_put : GoodIn wsL_law wsX3_put := goodIn_r _ [460, 21, 368, 461, 462, 20, 463, 464, 465, 466, 467, 468, 44, 469, 470, 471, 472, 43, 530, 531, 532, 533, 534, 535, 547, 548] (by decide +kernel) (by decide +kernel)
set_option maxRecDepth 20000 in
theorem gL_law_X3_put : GoodIn wsL_law (wsV RL 70 RX3 yX3_put wsX3_put) := goodIn_app (goodIn_of _ (by decide +kernel)) ggL_law_X3_put
set_option maxRecDepth 20000 in
theorem ggL_law_X4_put : GoodIn wsL_law wsX4_put := goodIn_r _ [476, 287, 61, 477, 478, 479, 5, 480, 481, 482, 97, 98, 99, 536, 537, 538, 539, 540, 541, 542, 543, 544, 545] (by decide +kernel) (by decide +kernel)
set_option maxRecDepth 20000 in
theorem gL_law_X4_put : GoodIn wsL_law (wsV RL 74 RX4 yX4_put wsX4_put) := goodIn_app (goodIn_of _ (by decide +kernel)) ggL_law_X4_put
set_option maxRecDepth 20000 in
theorem ggL_law_X3_wipe : GoodIn wsL_law wsX3_wipe := goodIn_r _ [486, 21, 368, 279, 280, 281, 20, 282, 44, 530, 531, 532, 533, 534, 535, 547, 548] (by decide +kernel) (by decide +kernel)
set_option maxRecDepth 20000 in
theorem gL_law_X3_wipe : GoodIn wsL_law (wsV RL 75 RX3 yX3_wipe wsX3_wipe) := goodIn_app (goodIn_of _ (by decide +kernel)) ggL_law_X3_wipe
set_option maxRecDepth 20000 in
theorem ggL_law_X4_wipe : GoodIn wsL_law wsX4_wipe := goodIn_r _ [490, 287, 536, 537, 538, 539, 540, 541, 542, 543, 544, 545] (by decide +kernel) (by decide +kernel)
set_option maxRecDepth 20000 in
theorem gL_law_X4_wipe : GoodIn wsL_law (wsV RL 78 RX4 yX4_wipe wsX4_wipe) := goodIn_app (goodIn_of _ (by decide +kernel)) ggL_law_X4_wipe
set_option maxRecDepth 20000 in
theorem ggL_law_X3_fault : GoodIn wsL_law wsX3_fault := goodIn_r _ [494, 21, 242, 243, 244, 20, 245, 44, 43, 246, 247, 248, 249, 250, 251, 252, 253, 254, 255, 256, 257, 258, 259, 260, 530, 531, 532, 533, 534, 535, 547, 548] (by decide +kernel) (by decide +kernel)
set_option maxRecDepth 20000 in
theorem gL_law_X3_fault : GoodIn wsL_law (wsV RL 79 RX3 yX3_fault wsX3_fault) := goodIn_app (goodIn_of _ (by decide +kernel)) ggL_law_X3_fault
set_option maxRecDepth 20000 in
theorem ggL_law_X4_fault : GoodIn wsL_law wsX4_fault := goodIn_r _ [291, 292, 287, 293, 294, 295, 5, 296, 297, 298, 299, 300, 301, 302, 303, 304, 61, 97, 98, 99, 305, 306, 307, 308, 309, 310, 311, 312, 313, 536, 537, 538, 539, 540, 541, 542, 543, 544, 545] (by decide +kernel) (by decide +kernel)
set_option maxRecDepth 20000 in
theorem gL_law_X4_fault : GoodIn wsL_law (wsV RL 82 RX4 yX4_fault wsX4_fault) := goodIn_app (goodIn_of _ (by decide +kernel)) ggL_law_X4_fault
set_option maxRecDepth 20000 in
theorem ggL_law_X3_undo : GoodIn wsL_law wsX3_undo := goodIn_r _ [499, 25, 369, 16, 72, 500, 501, 502, 24, 503, 50, 49, 51, 81, 2, 82, 83, 84, 85, 86, 530, 531, 532, 533, 534, 535, 549, 550, 551, 546] (by decide +kernel) (by decide +kernel)
set_option maxRecDepth 20000 in
theorem gL_law_X3_undo : GoodIn wsL_law (wsV RL 83 RX3 yX3_undo wsX3_undo) := goodIn_app (goodIn_of _ (by decide +kernel)) ggL_law_X3_undo
set_option maxRecDepth 20000 in
theorem ggL_law_X4_undo : GoodIn wsL_law wsX4_undo := goodIn_r _ [507, 104, 56, 58, 536, 537, 538, 539, 540, 541, 542, 543, 544, 545] (by decide +kernel) (by decide +kernel)
set_option maxRecDepth 20000 in
theorem gL_law_X4_undo : GoodIn wsL_law (wsV RL 86 RX4 yX4_undo wsX4_undo) := goodIn_app (goodIn_of _ (by decide +kernel)) ggL_law_X4_undo
set_option maxRecDepth 20000 in
theorem ggL_law_X3_save : GoodIn wsL_law wsX3_save := goodIn_r _ [511, 16, 72, 28, 30, 512, 513, 2, 514, 421, 81, 82, 83, 84, 85, 86, 530, 531, 532, 533, 534, 535, 546] (by decide +kernel) (by decide +kernel)
set_option maxRecDepth 20000 in
theorem gL_law_X3_save : GoodIn wsL_law (wsV RL 87 RX3 yX3_save wsX3_save) := goodIn_app (goodIn_of _ (by decide +kernel)) ggL_law_X3_save
set_option maxRecDepth 20000 in
theorem ggL_law_X4_save : GoodIn wsL_law wsX4_save := goodIn_r _ [518, 59, 56, 60, 519, 520, 5, 521, 536, 537, 538, 539, 540, 541, 542, 543, 544, 545] (by decide +kernel) (by decide +kernel)
set_option maxRecDepth 20000 in
theorem gL_law_X4_save : GoodIn wsL_law (wsV RL 90 RX4 yX4_save wsX4_save) := goodIn_app (goodIn_of _ (by decide +kernel)) ggL_law_X4_save
set_option maxRecDepth 20000 in
theorem ggL_law_X3_restore : GoodIn wsL_law wsX3_restore := goodIn_r _ [525, 30, 25, 16, 72, 28, 512, 513, 2, 514, 73, 74, 75, 24, 76, 49, 50, 51, 77, 78, 79, 80, 81, 82, 83, 84, 85, 86, 421, 530, 531, 532, 533, 534, 535, 546, 549, 550, 551] (by decide +kernel) (by decide +kernel)
set_option maxRecDepth 20000 in
theorem gL_law_X3_restore : GoodIn wsL_law (wsV RL 91 RX3 yX3_restore wsX3_restore) := goodIn_app (goodIn_of _ (by decide +kernel)) ggL_law_X3_restore
set_option maxRecDepth 20000 in
theorem ggL_law_X4_restore : GoodIn wsL_law wsX4_restore := goodIn_r _ [529, 60, 56, 59, 519, 520, 5, 521, 100, 101, 102, 103, 104, 58, 536, 537, 538, 539, 540, 541, 542, 543, 544, 545] (by decide +kernel) (by decide +kernel)
set_option maxRecDepth 20000 in
theorem gL_law_X4_restore : GoodIn wsL_law (wsV RL 94 RX4 yX4_restore wsX4_restore) := goodIn_app (goodIn_of _ (by decide +kernel)) ggL_law_X4_restore
theorem dL_law_0 : decode cL_law 0 = .ok (.new 7, 3) := by decide +kernel
theorem dL_law_3 : decode cL_law 3 = .ok (.dup, 1) := by decide +kernel
theorem dL_law_4 : decode cL_law 4 = .ok (.invokespecial 9, 3) := by decide +kernel
theorem dL_law_7 : decode cL_law 7 = .ok (.astore_n 1, 1) := by decide +kernel
theorem dL_law_8 : decode cL_law 8 = .ok (.new 10, 3) := by decide +kernel
theorem dL_law_11 : decode cL_law 11 = .ok (.dup, 1) := by decide +kernel
theorem dL_law_12 : decode cL_law 12 = .ok (.invokespecial 12, 3) := by decide +kernel
theorem dL_law_15 : decode cL_law 15 = .ok (.astore_n 2, 1) := by decide +kernel
theorem dL_law_16 : decode cL_law 16 = .ok (.iconst 0, 1) := by decide +kernel
theorem dL_law_17 : decode cL_law 17 = .ok (.istore_n 3, 1) := by decide +kernel
theorem dL_law_18 : decode cL_law 18 = .ok (.iload_n 3, 1) := by decide +kernel
theorem dL_law_19 : decode cL_law 19 = .ok (.aload_n 0, 1) := by decide +kernel
theorem dL_law_20 : decode cL_law 20 = .ok (.arraylength, 1) := by decide +kernel
theorem dL_law_21 : decode cL_law 21 = .ok (.iconst 3, 1) := by decide +kernel
theorem dL_law_22 : decode cL_law 22 = .ok (.isub, 1) := by decide +kernel
theorem dL_law_23 : decode cL_law 23 = .ok (.if_icmp .gt 554, 3) := by decide +kernel
theorem dL_law_26 : decode cL_law 26 = .ok (.aload_n 0, 1) := by decide +kernel
theorem dL_law_27 : decode cL_law 27 = .ok (.iload_n 3, 1) := by decide +kernel
theorem dL_law_28 : decode cL_law 28 = .ok (.iaload, 1) := by decide +kernel
theorem dL_law_29 : decode cL_law 29 = .ok (.bipush 31, 2) := by decide +kernel
theorem dL_law_31 : decode cL_law 31 = .ok (.iand, 1) := by decide +kernel
theorem dL_law_32 : decode cL_law 32 = .ok (.tableswitch 539 0 18 #[92, 125, 158, 181, 194, 217, 240, 273, 296, 319, 332, 355, 388, 401, 454, 467, 480, 493, 516], 92) := by decide +kernel
theorem dL_law_124 : decode cL_law 124 = .ok (.aload_n 1, 1) := by decide +kernel
theorem dL_law_125 : decode cL_law 125 = .ok (.aload_n 0, 1) := by decide +kernel
theorem dL_law_126 : decode cL_law 126 = .ok (.iload_n 3, 1) := by decide +kernel
theorem dL_law_127 : decode cL_law 127 = .ok (.iconst 1, 1) := by decide +kernel
theorem dL_law_128 : decode cL_law 128 = .ok (.iadd, 1) := by decide +kernel
theorem dL_law_129 : decode cL_law 129 = .ok (.iaload, 1) := by decide +kernel
theorem dL_law_130 : decode cL_law 130 = .ok (.aload_n 0, 1) := by decide +kernel
theorem dL_law_131 : decode cL_law 131 = .ok (.iload_n 3, 1) := by decide +kernel
theorem dL_law_132 : decode cL_law 132 = .ok (.iconst 2, 1) := by decide +kernel
theorem dL_law_133 : decode cL_law 133 = .ok (.iadd, 1) := by decide +kernel
theorem dL_law_134 : decode cL_law 134 = .ok (.iaload, 1) := by decide +kernel
theorem dL_law_135 : decode cL_law 135 = .ok (.invokevirtual 13, 3) := by decide +kernel
theorem dL_law_138 : decode cL_law 138 = .ok (.aload_n 2, 1) := by decide +kernel
theorem dL_law_139 : decode cL_law 139 = .ok (.aload_n 0, 1) := by decide +kernel
theorem dL_law_140 : decode cL_law 140 = .ok (.iload_n 3, 1) := by decide +kernel
theorem dL_law_141 : decode cL_law 141 = .ok (.iconst 1, 1) := by decide +kernel
theorem dL_law_142 : decode cL_law 142 = .ok (.iadd, 1) := by decide +kernel
theorem dL_law_143 : decode cL_law 143 = .ok (.iaload, 1) := by decide +kernel
theorem dL_law_144 : decode cL_law 144 = .ok (.aload_n 0, 1) := by decide +kernel
theorem dL_law_145 : decode cL_law 145 = .ok (.iload_n 3, 1) := by decide +kernel
theorem dL_law_146 : decode cL_law 146 = .ok (.iconst 2, 1) := by decide +kernel
theorem dL_law_147 : decode cL_law 147 = .ok (.iadd, 1) := by decide +kernel
theorem dL_law_148 : decode cL_law 148 = .ok (.iaload, 1) := by decide +kernel
theorem dL_law_149 : decode cL_law 149 = .ok (.invokevirtual 17, 3) := by decide +kernel
theorem dL_law_152 : decode cL_law 152 = .ok (.if_icmp .eq 419, 3) := by decide +kernel
theorem dL_law_155 : decode cL_law 155 = .ok (.iconst 0, 1) := by decide +kernel
theorem dL_law_156 : decode cL_law 156 = .ok (.ireturn, 1) := by decide +kernel
theorem dL_law_157 : decode cL_law 157 = .ok (.aload_n 1, 1) := by decide +kernel
theorem dL_law_158 : decode cL_law 158 = .ok (.aload_n 0, 1) := by decide +kernel
theorem dL_law_159 : decode cL_law 159 = .ok (.iload_n 3, 1) := by decide +kernel
theorem dL_law_160 : decode cL_law 160 = .ok (.iconst 1, 1) := by decide +kernel
theorem dL_law_161 : decode cL_law 161 = .ok (.iadd, 1) := by decide +kernel
theorem dL_law_162 : decode cL_law 162 = .ok (.iaload, 1) := by decide +kernel
theorem dL_law_163 : decode cL_law 163 = .ok (.aload_n 0, 1) := by decide +kernel
theorem dL_law_164 : decode cL_law 164 = .ok (.iload_n 3, 1) := by decide +kernel
theorem dL_law_165 : decode cL_law 165 = .ok (.iconst 2, 1) := by decide +kernel
theorem dL_law_166 : decode cL_law 166 = .ok (.iadd, 1) := by decide +kernel
theorem dL_law_167 : decode cL_law 167 = .ok (.iaload, 1) := by decide +kernel
theorem dL_law_168 : decode cL_law 168 = .ok (.invokevirtual 18, 3) := by decide +kernel
theorem dL_law_171 : decode cL_law 171 = .ok (.aload_n 2, 1) := by decide +kernel
theorem dL_law_172 : decode cL_law 172 = .ok (.aload_n 0, 1) := by decide +kernel
theorem dL_law_173 : decode cL_law 173 = .ok (.iload_n 3, 1) := by decide +kernel
theorem dL_law_174 : decode cL_law 174 = .ok (.iconst 1, 1) := by decide +kernel
theorem dL_law_175 : decode cL_law 175 = .ok (.iadd, 1) := by decide +kernel
theorem dL_law_176 : decode cL_law 176 = .ok (.iaload, 1) := by decide +kernel
theorem dL_law_177 : decode cL_law 177 = .ok (.aload_n 0, 1) := by decide +kernel
theorem dL_law_178 : decode cL_law 178 = .ok (.iload_n 3, 1) := by decide +kernel
theorem dL_law_179 : decode cL_law 179 = .ok (.iconst 2, 1) := by decide +kernel
theorem dL_law_180 : decode cL_law 180 = .ok (.iadd, 1) := by decide +kernel
theorem dL_law_181 : decode cL_law 181 = .ok (.iaload, 1) := by decide +kernel
theorem dL_law_182 : decode cL_law 182 = .ok (.invokevirtual 21, 3) := by decide +kernel
theorem dL_law_185 : decode cL_law 185 = .ok (.if_icmp .eq 386, 3) := by decide +kernel
theorem dL_law_188 : decode cL_law 188 = .ok (.iconst 0, 1) := by decide +kernel
theorem dL_law_189 : decode cL_law 189 = .ok (.ireturn, 1) := by decide +kernel
theorem dL_law_190 : decode cL_law 190 = .ok (.aload_n 1, 1) := by decide +kernel
theorem dL_law_191 : decode cL_law 191 = .ok (.aload_n 0, 1) := by decide +kernel
theorem dL_law_192 : decode cL_law 192 = .ok (.iload_n 3, 1) := by decide +kernel
theorem dL_law_193 : decode cL_law 193 = .ok (.iconst 1, 1) := by decide +kernel
theorem dL_law_194 : decode cL_law 194 = .ok (.iadd, 1) := by decide +kernel
theorem dL_law_195 : decode cL_law 195 = .ok (.iaload, 1) := by decide +kernel
theorem dL_law_196 : decode cL_law 196 = .ok (.invokevirtual 22, 3) := by decide +kernel
theorem dL_law_199 : decode cL_law 199 = .ok (.aload_n 2, 1) := by decide +kernel
theorem dL_law_200 : decode cL_law 200 = .ok (.aload_n 0, 1) := by decide +kernel
theorem dL_law_201 : decode cL_law 201 = .ok (.iload_n 3, 1) := by decide +kernel
theorem dL_law_202 : decode cL_law 202 = .ok (.iconst 1, 1) := by decide +kernel
theorem dL_law_203 : decode cL_law 203 = .ok (.iadd, 1) := by decide +kernel
theorem dL_law_204 : decode cL_law 204 = .ok (.iaload, 1) := by decide +kernel
theorem dL_law_205 : decode cL_law 205 = .ok (.invokevirtual 26, 3) := by decide +kernel
theorem dL_law_208 : decode cL_law 208 = .ok (.if_icmp .eq 363, 3) := by decide +kernel
theorem dL_law_211 : decode cL_law 211 = .ok (.iconst 0, 1) := by decide +kernel
theorem dL_law_212 : decode cL_law 212 = .ok (.ireturn, 1) := by decide +kernel
theorem dL_law_213 : decode cL_law 213 = .ok (.aload_n 1, 1) := by decide +kernel
theorem dL_law_214 : decode cL_law 214 = .ok (.invokevirtual 27, 3) := by decide +kernel
theorem dL_law_217 : decode cL_law 217 = .ok (.aload_n 2, 1) := by decide +kernel
theorem dL_law_218 : decode cL_law 218 = .ok (.invokevirtual 31, 3) := by decide +kernel
theorem dL_law_221 : decode cL_law 221 = .ok (.if_icmp .eq 350, 3) := by decide +kernel
theorem dL_law_224 : decode cL_law 224 = .ok (.iconst 0, 1) := by decide +kernel
theorem dL_law_225 : decode cL_law 225 = .ok (.ireturn, 1) := by decide +kernel
theorem dL_law_226 : decode cL_law 226 = .ok (.aload_n 1, 1) := by decide +kernel
theorem dL_law_227 : decode cL_law 227 = .ok (.aload_n 0, 1) := by decide +kernel
theorem dL_law_228 : decode cL_law 228 = .ok (.iload_n 3, 1) := by decide +kernel
theorem dL_law_229 : decode cL_law 229 = .ok (.iconst 1, 1) := by decide +kernel
theorem dL_law_230 : decode cL_law 230 = .ok (.iadd, 1) := by decide +kernel
theorem dL_law_231 : decode cL_law 231 = .ok (.iaload, 1) := by decide +kernel
theorem dL_law_232 : decode cL_law 232 = .ok (.invokevirtual 32, 3) := by decide +kernel
theorem dL_law_235 : decode cL_law 235 = .ok (.aload_n 2, 1) := by decide +kernel
theorem dL_law_236 : decode cL_law 236 = .ok (.aload_n 0, 1) := by decide +kernel
theorem dL_law_237 : decode cL_law 237 = .ok (.iload_n 3, 1) := by decide +kernel
theorem dL_law_238 : decode cL_law 238 = .ok (.iconst 1, 1) := by decide +kernel
theorem dL_law_239 : decode cL_law 239 = .ok (.iadd, 1) := by decide +kernel
theorem dL_law_240 : decode cL_law 240 = .ok (.iaload, 1) := by decide +kernel
theorem dL_law_241 : decode cL_law 241 = .ok (.invokevirtual 35, 3) := by decide +kernel
theorem dL_law_244 : decode cL_law 244 = .ok (.if_icmp .eq 327, 3) := by decide +kernel
theorem dL_law_247 : decode cL_law 247 = .ok (.iconst 0, 1) := by decide +kernel
theorem dL_law_248 : decode cL_law 248 = .ok (.ireturn, 1) := by decide +kernel
theorem dL_law_249 : decode cL_law 249 = .ok (.aload_n 1, 1) := by decide +kernel
theorem dL_law_250 : decode cL_law 250 = .ok (.aload_n 0, 1) := by decide +kernel
theorem dL_law_251 : decode cL_law 251 = .ok (.iload_n 3, 1) := by decide +kernel
theorem dL_law_252 : decode cL_law 252 = .ok (.iconst 1, 1) := by decide +kernel
theorem dL_law_253 : decode cL_law 253 = .ok (.iadd, 1) := by decide +kernel
theorem dL_law_254 : decode cL_law 254 = .ok (.iaload, 1) := by decide +kernel
theorem dL_law_255 : decode cL_law 255 = .ok (.invokevirtual 36, 3) := by decide +kernel
theorem dL_law_258 : decode cL_law 258 = .ok (.aload_n 2, 1) := by decide +kernel
theorem dL_law_259 : decode cL_law 259 = .ok (.aload_n 0, 1) := by decide +kernel
theorem dL_law_260 : decode cL_law 260 = .ok (.iload_n 3, 1) := by decide +kernel
theorem dL_law_261 : decode cL_law 261 = .ok (.iconst 1, 1) := by decide +kernel
theorem dL_law_262 : decode cL_law 262 = .ok (.iadd, 1) := by decide +kernel
theorem dL_law_263 : decode cL_law 263 = .ok (.iaload, 1) := by decide +kernel
theorem dL_law_264 : decode cL_law 264 = .ok (.invokevirtual 39, 3) := by decide +kernel
theorem dL_law_267 : decode cL_law 267 = .ok (.if_icmp .eq 304, 3) := by decide +kernel
theorem dL_law_270 : decode cL_law 270 = .ok (.iconst 0, 1) := by decide +kernel
theorem dL_law_271 : decode cL_law 271 = .ok (.ireturn, 1) := by decide +kernel
theorem dL_law_272 : decode cL_law 272 = .ok (.aload_n 1, 1) := by decide +kernel
theorem dL_law_273 : decode cL_law 273 = .ok (.aload_n 0, 1) := by decide +kernel
theorem dL_law_274 : decode cL_law 274 = .ok (.iload_n 3, 1) := by decide +kernel
theorem dL_law_275 : decode cL_law 275 = .ok (.iconst 1, 1) := by decide +kernel
theorem dL_law_276 : decode cL_law 276 = .ok (.iadd, 1) := by decide +kernel
theorem dL_law_277 : decode cL_law 277 = .ok (.iaload, 1) := by decide +kernel
theorem dL_law_278 : decode cL_law 278 = .ok (.aload_n 0, 1) := by decide +kernel
theorem dL_law_279 : decode cL_law 279 = .ok (.iload_n 3, 1) := by decide +kernel
theorem dL_law_280 : decode cL_law 280 = .ok (.iconst 2, 1) := by decide +kernel
theorem dL_law_281 : decode cL_law 281 = .ok (.iadd, 1) := by decide +kernel
theorem dL_law_282 : decode cL_law 282 = .ok (.iaload, 1) := by decide +kernel
theorem dL_law_283 : decode cL_law 283 = .ok (.invokevirtual 40, 3) := by decide +kernel
theorem dL_law_286 : decode cL_law 286 = .ok (.aload_n 2, 1) := by decide +kernel
theorem dL_law_287 : decode cL_law 287 = .ok (.aload_n 0, 1) := by decide +kernel
theorem dL_law_288 : decode cL_law 288 = .ok (.iload_n 3, 1) := by decide +kernel
theorem dL_law_289 : decode cL_law 289 = .ok (.iconst 1, 1) := by decide +kernel
theorem dL_law_290 : decode cL_law 290 = .ok (.iadd, 1) := by decide +kernel
theorem dL_law_291 : decode cL_law 291 = .ok (.iaload, 1) := by decide +kernel
theorem dL_law_292 : decode cL_law 292 = .ok (.aload_n 0, 1) := by decide +kernel
theorem dL_law_293 : decode cL_law 293 = .ok (.iload_n 3, 1) := by decide +kernel
theorem dL_law_294 : decode cL_law 294 = .ok (.iconst 2, 1) := by decide +kernel
theorem dL_law_295 : decode cL_law 295 = .ok (.iadd, 1) := by decide +kernel
theorem dL_law_296 : decode cL_law 296 = .ok (.iaload, 1) := by decide +kernel
theorem dL_law_297 : decode cL_law 297 = .ok (.invokevirtual 43, 3) := by decide +kernel
theorem dL_law_300 : decode cL_law 300 = .ok (.if_icmp .eq 271, 3) := by decide +kernel
theorem dL_law_303 : decode cL_law 303 = .ok (.iconst 0, 1) := by decide +kernel
theorem dL_law_304 : decode cL_law 304 = .ok (.ireturn, 1) := by decide +kernel
theorem dL_law_305 : decode cL_law 305 = .ok (.aload_n 1, 1) := by decide +kernel
theorem dL_law_306 : decode cL_law 306 = .ok (.aload_n 0, 1) := by decide +kernel
theorem dL_law_307 : decode cL_law 307 = .ok (.iload_n 3, 1) := by decide +kernel
theorem dL_law_308 : decode cL_law 308 = .ok (.iconst 1, 1) := by decide +kernel
theorem dL_law_309 : decode cL_law 309 = .ok (.iadd, 1) := by decide +kernel
theorem dL_law_310 : decode cL_law 310 = .ok (.iaload, 1) := by decide +kernel
theorem dL_law_311 : decode cL_law 311 = .ok (.invokevirtual 44, 3) := by decide +kernel
theorem dL_law_314 : decode cL_law 314 = .ok (.aload_n 2, 1) := by decide +kernel
theorem dL_law_315 : decode cL_law 315 = .ok (.aload_n 0, 1) := by decide +kernel
theorem dL_law_316 : decode cL_law 316 = .ok (.iload_n 3, 1) := by decide +kernel
theorem dL_law_317 : decode cL_law 317 = .ok (.iconst 1, 1) := by decide +kernel
theorem dL_law_318 : decode cL_law 318 = .ok (.iadd, 1) := by decide +kernel
theorem dL_law_319 : decode cL_law 319 = .ok (.iaload, 1) := by decide +kernel
theorem dL_law_320 : decode cL_law 320 = .ok (.invokevirtual 47, 3) := by decide +kernel
theorem dL_law_323 : decode cL_law 323 = .ok (.if_icmp .eq 248, 3) := by decide +kernel
theorem dL_law_326 : decode cL_law 326 = .ok (.iconst 0, 1) := by decide +kernel
theorem dL_law_327 : decode cL_law 327 = .ok (.ireturn, 1) := by decide +kernel
theorem dL_law_328 : decode cL_law 328 = .ok (.aload_n 1, 1) := by decide +kernel
theorem dL_law_329 : decode cL_law 329 = .ok (.aload_n 0, 1) := by decide +kernel
theorem dL_law_330 : decode cL_law 330 = .ok (.iload_n 3, 1) := by decide +kernel
theorem dL_law_331 : decode cL_law 331 = .ok (.iconst 1, 1) := by decide +kernel
theorem dL_law_332 : decode cL_law 332 = .ok (.iadd, 1) := by decide +kernel
theorem dL_law_333 : decode cL_law 333 = .ok (.iaload, 1) := by decide +kernel
theorem dL_law_334 : decode cL_law 334 = .ok (.invokevirtual 48, 3) := by decide +kernel
theorem dL_law_337 : decode cL_law 337 = .ok (.aload_n 2, 1) := by decide +kernel
theorem dL_law_338 : decode cL_law 338 = .ok (.aload_n 0, 1) := by decide +kernel
theorem dL_law_339 : decode cL_law 339 = .ok (.iload_n 3, 1) := by decide +kernel
theorem dL_law_340 : decode cL_law 340 = .ok (.iconst 1, 1) := by decide +kernel
theorem dL_law_341 : decode cL_law 341 = .ok (.iadd, 1) := by decide +kernel
theorem dL_law_342 : decode cL_law 342 = .ok (.iaload, 1) := by decide +kernel
theorem dL_law_343 : decode cL_law 343 = .ok (.invokevirtual 51, 3) := by decide +kernel
theorem dL_law_346 : decode cL_law 346 = .ok (.if_icmp .eq 225, 3) := by decide +kernel
theorem dL_law_349 : decode cL_law 349 = .ok (.iconst 0, 1) := by decide +kernel
theorem dL_law_350 : decode cL_law 350 = .ok (.ireturn, 1) := by decide +kernel
theorem dL_law_351 : decode cL_law 351 = .ok (.aload_n 1, 1) := by decide +kernel
theorem dL_law_352 : decode cL_law 352 = .ok (.invokevirtual 52, 3) := by decide +kernel
theorem dL_law_355 : decode cL_law 355 = .ok (.aload_n 2, 1) := by decide +kernel
theorem dL_law_356 : decode cL_law 356 = .ok (.invokevirtual 55, 3) := by decide +kernel
theorem dL_law_359 : decode cL_law 359 = .ok (.if_icmp .eq 212, 3) := by decide +kernel
theorem dL_law_362 : decode cL_law 362 = .ok (.iconst 0, 1) := by decide +kernel
theorem dL_law_363 : decode cL_law 363 = .ok (.ireturn, 1) := by decide +kernel
theorem dL_law_364 : decode cL_law 364 = .ok (.aload_n 1, 1) := by decide +kernel
theorem dL_law_365 : decode cL_law 365 = .ok (.aload_n 0, 1) := by decide +kernel
theorem dL_law_366 : decode cL_law 366 = .ok (.iload_n 3, 1) := by decide +kernel
theorem dL_law_367 : decode cL_law 367 = .ok (.iconst 1, 1) := by decide +kernel
theorem dL_law_368 : decode cL_law 368 = .ok (.iadd, 1) := by decide +kernel
theorem dL_law_369 : decode cL_law 369 = .ok (.iaload, 1) := by decide +kernel
theorem dL_law_370 : decode cL_law 370 = .ok (.invokevirtual 56, 3) := by decide +kernel
theorem dL_law_373 : decode cL_law 373 = .ok (.aload_n 2, 1) := by decide +kernel
theorem dL_law_374 : decode cL_law 374 = .ok (.aload_n 0, 1) := by decide +kernel
theorem dL_law_375 : decode cL_law 375 = .ok (.iload_n 3, 1) := by decide +kernel
theorem dL_law_376 : decode cL_law 376 = .ok (.iconst 1, 1) := by decide +kernel
theorem dL_law_377 : decode cL_law 377 = .ok (.iadd, 1) := by decide +kernel
theorem dL_law_378 : decode cL_law 378 = .ok (.iaload, 1) := by decide +kernel
theorem dL_law_379 : decode cL_law 379 = .ok (.invokevirtual 59, 3) := by decide +kernel
theorem dL_law_382 : decode cL_law 382 = .ok (.if_icmp .eq 189, 3) := by decide +kernel
theorem dL_law_385 : decode cL_law 385 = .ok (.iconst 0, 1) := by decide +kernel
theorem dL_law_386 : decode cL_law 386 = .ok (.ireturn, 1) := by decide +kernel
theorem dL_law_387 : decode cL_law 387 = .ok (.aload_n 1, 1) := by decide +kernel
theorem dL_law_388 : decode cL_law 388 = .ok (.aload_n 0, 1) := by decide +kernel
theorem dL_law_389 : decode cL_law 389 = .ok (.iload_n 3, 1) := by decide +kernel
theorem dL_law_390 : decode cL_law 390 = .ok (.iconst 1, 1) := by decide +kernel
theorem dL_law_391 : decode cL_law 391 = .ok (.iadd, 1) := by decide +kernel
theorem dL_law_392 : decode cL_law 392 = .ok (.iaload, 1) := by decide +kernel
theorem dL_law_393 : decode cL_law 393 = .ok (.aload_n 0, 1) := by decide +kernel
theorem dL_law_394 : decode cL_law 394 = .ok (.iload_n 3, 1) := by decide +kernel
theorem dL_law_395 : decode cL_law 395 = .ok (.iconst 2, 1) := by decide +kernel
theorem dL_law_396 : decode cL_law 396 = .ok (.iadd, 1) := by decide +kernel
theorem dL_law_397 : decode cL_law 397 = .ok (.iaload, 1) := by decide +kernel
theorem dL_law_398 : decode cL_law 398 = .ok (.invokevirtual 60, 3) := by decide +kernel
theorem dL_law_401 : decode cL_law 401 = .ok (.aload_n 2, 1) := by decide +kernel
theorem dL_law_402 : decode cL_law 402 = .ok (.aload_n 0, 1) := by decide +kernel
theorem dL_law_403 : decode cL_law 403 = .ok (.iload_n 3, 1) := by decide +kernel
theorem dL_law_404 : decode cL_law 404 = .ok (.iconst 1, 1) := by decide +kernel
theorem dL_law_405 : decode cL_law 405 = .ok (.iadd, 1) := by decide +kernel
theorem dL_law_406 : decode cL_law 406 = .ok (.iaload, 1) := by decide +kernel
theorem dL_law_407 : decode cL_law 407 = .ok (.aload_n 0, 1) := by decide +kernel
theorem dL_law_408 : decode cL_law 408 = .ok (.iload_n 3, 1) := by decide +kernel
theorem dL_law_409 : decode cL_law 409 = .ok (.iconst 2, 1) := by decide +kernel
theorem dL_law_410 : decode cL_law 410 = .ok (.iadd, 1) := by decide +kernel
theorem dL_law_411 : decode cL_law 411 = .ok (.iaload, 1) := by decide +kernel
theorem dL_law_412 : decode cL_law 412 = .ok (.invokevirtual 63, 3) := by decide +kernel
theorem dL_law_415 : decode cL_law 415 = .ok (.if_icmp .eq 156, 3) := by decide +kernel
theorem dL_law_418 : decode cL_law 418 = .ok (.iconst 0, 1) := by decide +kernel
theorem dL_law_419 : decode cL_law 419 = .ok (.ireturn, 1) := by decide +kernel
theorem dL_law_420 : decode cL_law 420 = .ok (.aload_n 1, 1) := by decide +kernel
theorem dL_law_421 : decode cL_law 421 = .ok (.invokevirtual 64, 3) := by decide +kernel
theorem dL_law_424 : decode cL_law 424 = .ok (.aload_n 2, 1) := by decide +kernel
theorem dL_law_425 : decode cL_law 425 = .ok (.invokevirtual 67, 3) := by decide +kernel
theorem dL_law_428 : decode cL_law 428 = .ok (.if_icmp .eq 143, 3) := by decide +kernel
theorem dL_law_431 : decode cL_law 431 = .ok (.iconst 0, 1) := by decide +kernel
theorem dL_law_432 : decode cL_law 432 = .ok (.ireturn, 1) := by decide +kernel
theorem dL_law_433 : decode cL_law 433 = .ok (.aload_n 1, 1) := by decide +kernel
theorem dL_law_434 : decode cL_law 434 = .ok (.aload_n 0, 1) := by decide +kernel
theorem dL_law_435 : decode cL_law 435 = .ok (.iload_n 3, 1) := by decide +kernel
theorem dL_law_436 : decode cL_law 436 = .ok (.iconst 1, 1) := by decide +kernel
theorem dL_law_437 : decode cL_law 437 = .ok (.iadd, 1) := by decide +kernel
theorem dL_law_438 : decode cL_law 438 = .ok (.iaload, 1) := by decide +kernel
theorem dL_law_439 : decode cL_law 439 = .ok (.i2l, 1) := by decide +kernel
theorem dL_law_440 : decode cL_law 440 = .ok (.bipush 32, 2) := by decide +kernel
theorem dL_law_442 : decode cL_law 442 = .ok (.lshl, 1) := by decide +kernel
theorem dL_law_443 : decode cL_law 443 = .ok (.aload_n 0, 1) := by decide +kernel
theorem dL_law_444 : decode cL_law 444 = .ok (.iload_n 3, 1) := by decide +kernel
theorem dL_law_445 : decode cL_law 445 = .ok (.iconst 2, 1) := by decide +kernel
theorem dL_law_446 : decode cL_law 446 = .ok (.iadd, 1) := by decide +kernel
theorem dL_law_447 : decode cL_law 447 = .ok (.iaload, 1) := by decide +kernel
theorem dL_law_448 : decode cL_law 448 = .ok (.i2l, 1) := by decide +kernel
theorem dL_law_449 : decode cL_law 449 = .ok (.ldc2_w 68, 3) := by decide +kernel
theorem dL_law_452 : decode cL_law 452 = .ok (.land, 1) := by decide +kernel
theorem dL_law_453 : decode cL_law 453 = .ok (.lor, 1) := by decide +kernel
theorem dL_law_454 : decode cL_law 454 = .ok (.invokevirtual 70, 3) := by decide +kernel
theorem dL_law_457 : decode cL_law 457 = .ok (.aload_n 2, 1) := by decide +kernel
theorem dL_law_458 : decode cL_law 458 = .ok (.aload_n 0, 1) := by decide +kernel
theorem dL_law_459 : decode cL_law 459 = .ok (.iload_n 3, 1) := by decide +kernel
theorem dL_law_460 : decode cL_law 460 = .ok (.iconst 1, 1) := by decide +kernel
theorem dL_law_461 : decode cL_law 461 = .ok (.iadd, 1) := by decide +kernel
theorem dL_law_462 : decode cL_law 462 = .ok (.iaload, 1) := by decide +kernel
theorem dL_law_463 : decode cL_law 463 = .ok (.i2l, 1) := by decide +kernel
theorem dL_law_464 : decode cL_law 464 = .ok (.bipush 32, 2) := by decide +kernel
theorem dL_law_466 : decode cL_law 466 = .ok (.lshl, 1) := by decide +kernel
theorem dL_law_467 : decode cL_law 467 = .ok (.aload_n 0, 1) := by decide +kernel
theorem dL_law_468 : decode cL_law 468 = .ok (.iload_n 3, 1) := by decide +kernel
theorem dL_law_469 : decode cL_law 469 = .ok (.iconst 2, 1) := by decide +kernel
theorem dL_law_470 : decode cL_law 470 = .ok (.iadd, 1) := by decide +kernel
theorem dL_law_471 : decode cL_law 471 = .ok (.iaload, 1) := by decide +kernel
theorem dL_law_472 : decode cL_law 472 = .ok (.i2l, 1) := by decide +kernel
theorem dL_law_473 : decode cL_law 473 = .ok (.ldc2_w 68, 3) := by decide +kernel
theorem dL_law_476 : decode cL_law 476 = .ok (.land, 1) := by decide +kernel
theorem dL_law_477 : decode cL_law 477 = .ok (.lor, 1) := by decide +kernel
theorem dL_law_478 : decode cL_law 478 = .ok (.invokevirtual 74, 3) := by decide +kernel
theorem dL_law_481 : decode cL_law 481 = .ok (.if_icmp .eq 90, 3) := by decide +kernel
theorem dL_law_484 : decode cL_law 484 = .ok (.iconst 0, 1) := by decide +kernel
theorem dL_law_485 : decode cL_law 485 = .ok (.ireturn, 1) := by decide +kernel
theorem dL_law_486 : decode cL_law 486 = .ok (.aload_n 1, 1) := by decide +kernel
theorem dL_law_487 : decode cL_law 487 = .ok (.invokevirtual 75, 3) := by decide +kernel
theorem dL_law_490 : decode cL_law 490 = .ok (.aload_n 2, 1) := by decide +kernel
theorem dL_law_491 : decode cL_law 491 = .ok (.invokevirtual 78, 3) := by decide +kernel
theorem dL_law_494 : decode cL_law 494 = .ok (.if_icmp .eq 77, 3) := by decide +kernel
theorem dL_law_497 : decode cL_law 497 = .ok (.iconst 0, 1) := by decide +kernel
theorem dL_law_498 : decode cL_law 498 = .ok (.ireturn, 1) := by decide +kernel
theorem dL_law_499 : decode cL_law 499 = .ok (.aload_n 1, 1) := by decide +kernel
theorem dL_law_500 : decode cL_law 500 = .ok (.invokevirtual 79, 3) := by decide +kernel
theorem dL_law_503 : decode cL_law 503 = .ok (.aload_n 2, 1) := by decide +kernel
theorem dL_law_504 : decode cL_law 504 = .ok (.invokevirtual 82, 3) := by decide +kernel
theorem dL_law_507 : decode cL_law 507 = .ok (.if_icmp .eq 64, 3) := by decide +kernel
theorem dL_law_510 : decode cL_law 510 = .ok (.iconst 0, 1) := by decide +kernel
theorem dL_law_511 : decode cL_law 511 = .ok (.ireturn, 1) := by decide +kernel
theorem dL_law_512 : decode cL_law 512 = .ok (.aload_n 1, 1) := by decide +kernel
theorem dL_law_513 : decode cL_law 513 = .ok (.invokevirtual 83, 3) := by decide +kernel
theorem dL_law_516 : decode cL_law 516 = .ok (.aload_n 2, 1) := by decide +kernel
theorem dL_law_517 : decode cL_law 517 = .ok (.invokevirtual 86, 3) := by decide +kernel
theorem dL_law_520 : decode cL_law 520 = .ok (.if_icmp .eq 51, 3) := by decide +kernel
theorem dL_law_523 : decode cL_law 523 = .ok (.iconst 0, 1) := by decide +kernel
theorem dL_law_524 : decode cL_law 524 = .ok (.ireturn, 1) := by decide +kernel
theorem dL_law_525 : decode cL_law 525 = .ok (.aload_n 1, 1) := by decide +kernel
theorem dL_law_526 : decode cL_law 526 = .ok (.aload_n 0, 1) := by decide +kernel
theorem dL_law_527 : decode cL_law 527 = .ok (.iload_n 3, 1) := by decide +kernel
theorem dL_law_528 : decode cL_law 528 = .ok (.iconst 1, 1) := by decide +kernel
theorem dL_law_529 : decode cL_law 529 = .ok (.iadd, 1) := by decide +kernel
theorem dL_law_530 : decode cL_law 530 = .ok (.iaload, 1) := by decide +kernel
theorem dL_law_531 : decode cL_law 531 = .ok (.invokevirtual 87, 3) := by decide +kernel
theorem dL_law_534 : decode cL_law 534 = .ok (.aload_n 2, 1) := by decide +kernel
theorem dL_law_535 : decode cL_law 535 = .ok (.aload_n 0, 1) := by decide +kernel
theorem dL_law_536 : decode cL_law 536 = .ok (.iload_n 3, 1) := by decide +kernel
theorem dL_law_537 : decode cL_law 537 = .ok (.iconst 1, 1) := by decide +kernel
theorem dL_law_538 : decode cL_law 538 = .ok (.iadd, 1) := by decide +kernel
theorem dL_law_539 : decode cL_law 539 = .ok (.iaload, 1) := by decide +kernel
theorem dL_law_540 : decode cL_law 540 = .ok (.invokevirtual 90, 3) := by decide +kernel
theorem dL_law_543 : decode cL_law 543 = .ok (.if_icmp .eq 28, 3) := by decide +kernel
theorem dL_law_546 : decode cL_law 546 = .ok (.iconst 0, 1) := by decide +kernel
theorem dL_law_547 : decode cL_law 547 = .ok (.ireturn, 1) := by decide +kernel
theorem dL_law_548 : decode cL_law 548 = .ok (.aload_n 1, 1) := by decide +kernel
theorem dL_law_549 : decode cL_law 549 = .ok (.aload_n 0, 1) := by decide +kernel
theorem dL_law_550 : decode cL_law 550 = .ok (.iload_n 3, 1) := by decide +kernel
theorem dL_law_551 : decode cL_law 551 = .ok (.iconst 1, 1) := by decide +kernel
theorem dL_law_552 : decode cL_law 552 = .ok (.iadd, 1) := by decide +kernel
theorem dL_law_553 : decode cL_law 553 = .ok (.iaload, 1) := by decide +kernel
theorem dL_law_554 : decode cL_law 554 = .ok (.invokevirtual 91, 3) := by decide +kernel
theorem dL_law_557 : decode cL_law 557 = .ok (.aload_n 2, 1) := by decide +kernel
theorem dL_law_558 : decode cL_law 558 = .ok (.aload_n 0, 1) := by decide +kernel
theorem dL_law_559 : decode cL_law 559 = .ok (.iload_n 3, 1) := by decide +kernel
theorem dL_law_560 : decode cL_law 560 = .ok (.iconst 1, 1) := by decide +kernel
theorem dL_law_561 : decode cL_law 561 = .ok (.iadd, 1) := by decide +kernel
theorem dL_law_562 : decode cL_law 562 = .ok (.iaload, 1) := by decide +kernel
theorem dL_law_563 : decode cL_law 563 = .ok (.invokevirtual 94, 3) := by decide +kernel
theorem dL_law_566 : decode cL_law 566 = .ok (.if_icmp .eq 5, 3) := by decide +kernel
theorem dL_law_569 : decode cL_law 569 = .ok (.iconst 0, 1) := by decide +kernel
theorem dL_law_570 : decode cL_law 570 = .ok (.ireturn, 1) := by decide +kernel
theorem dL_law_571 : decode cL_law 571 = .ok (.iinc 3 3, 3) := by decide +kernel
theorem dL_law_574 : decode cL_law 574 = .ok (.goto (-556), 3) := by decide +kernel
theorem dL_law_577 : decode cL_law 577 = .ok (.iconst 1, 1) := by decide +kernel
theorem dL_law_578 : decode cL_law 578 = .ok (.ireturn, 1) := by decide +kernel
end
section
/-! base: a world put back by its places; the two shapes of contract; their calls -/
def b_put : va_W → List Nat → va_W → va_W
  | ws, i :: is, x :: xs => b_put (ws.set i x) is xs
  | ws, [], _ => ws
  | ws, _ :: _, [] => ws
theorem b_put_get : ∀ (is : List Nat) (w1 ws : va_W) (k : Nat) (q : Nat × va_E), is.length = w1.length → (b_put ws is w1)[k]? = some q → (∃ j : Nat, is[j]? = some k ∧ w1[j]? = some q) ∨ (k ∉ is ∧ ws[k]? = some q)
  | [], [], _, _, _, _, h => Or.inr ⟨List.not_mem_nil, h⟩
  | [], _ :: _, _, _, _, hl, _ => by cases hl
  | _ :: _, [], _, _, _, hl, _ => by cases hl
  | i :: is, x :: xs, ws, k, q, hl, h => by
    rcases b_put_get is xs (ws.set i x) k q (Nat.succ.inj hl) h with ⟨j, h1, h2⟩ | ⟨h1, h2⟩
    · exact Or.inl ⟨j + 1, h1, h2⟩
    · rw [List.getElem?_set] at h2
      by_cases e : i = k
      · rw [if_pos e] at h2
        split at h2
        · cases h2
          exact Or.inl ⟨0, by rw [e]; rfl, rfl⟩
        · cases h2
      · rw [if_neg e] at h2
        exact Or.inr ⟨fun hm => (List.mem_cons.mp hm).elim (fun z => e z.symm) h1, h2⟩
theorem b_put_addr : ∀ (is : List Nat) (w1 ws : va_W), is.map (fun i => (ws.map (fun q => q.1))[i]?) = w1.map (fun q => some q.1) → (b_put ws is w1).map (fun q => q.1) = ws.map (fun q => q.1)
  | [], [], _, _ => rfl
  | [], _ :: _, _, _ => rfl
  | _ :: _, [], _, _ => rfl
  | i :: is, x :: xs, ws, h => by
    have h0 : (ws.map (fun q => q.1))[i]? = some x.1 := (List.cons.inj h).1
    have h1 : is.map (fun i => (ws.map (fun q => q.1))[i]?) = xs.map (fun q => some q.1) := (List.cons.inj h).2
    have e : (ws.set i x).map (fun q => q.1) = ws.map (fun q => q.1) := by
      rw [List.map_set]
      apply List.ext_getElem?
      intro k
      rw [List.getElem?_set]
      by_cases z : i = k
      · subst z
        rw [if_pos rfl, h0]
        split
        · rfl
        · rename_i hlt
          have := (List.getElem?_eq_some_iff.mp h0).1
          exact absurd this hlt
      · rw [if_neg z]
    have := b_put_addr is xs (ws.set i x) (by rw [e]; exact h1)
    show (b_put (ws.set i x) is xs).map _ = _
    rw [this, e]
theorem b_D_addr {A : Nat → Prop} {w1 w2 : va_W} (h : va_D A w1) (e : w2.map (fun q => q.1) = w1.map (fun q => q.1)) : va_D A w2 := by
  have key : ∀ (i : Nat) (p : Nat × va_E), w2[i]? = some p → ∃ p', w1[i]? = some p' ∧ p'.1 = p.1 := by
    intro i p hi
    have h1 : (w2.map (fun q => q.1))[i]? = some p.1 := by rw [List.getElem?_map, hi]; rfl
    rw [e, List.getElem?_map] at h1
    cases hq : w1[i]? with
    | none => rw [hq] at h1; cases h1
    | some p' => rw [hq] at h1; exact ⟨p', rfl, Option.some.inj h1⟩
  refine ⟨fun i j p q hi hj hpq => ?_, fun k q hk => ?_⟩
  · obtain ⟨p', h1, h2⟩ := key i p hi
    obtain ⟨q', h3, h4⟩ := key j q hj
    exact h.1 i j p' q' h1 h3 (by rw [h2, h4, hpq])
  · obtain ⟨q', h1, h2⟩ := key k q hk
    rw [← h2]
    exact h.2 k q' h1
theorem b_join {A0 : Nat → Prop} {D : va_G} {cl : List vw_C} {ws wc w1 : va_W} {H H1 : Heap} (hP : va_P D cl ws H) (hD : va_D A0 ws) (is : List Nat) (hC : is.map (fun i => ws[i]?) = wc.map some) (hw : w1.map (fun q => q.1) = wc.map (fun q => q.1))
    (hk : ∀ q : Nat, q < H.size → ¬ va_A wc H.size q → H1[q]? = H[q]?) (hP1 : va_P D cl w1 H1) : va_P D cl (b_put ws is w1) H1 ∧ va_D A0 (b_put ws is w1) := by
  have hl1 : is.length = wc.length := by have := congrArg List.length hC; simpa using this
  have hl2 : w1.length = wc.length := by have := congrArg List.length hw; simpa using this
  refine ⟨fun k q hq => ?_, b_D_addr hD (b_put_addr is w1 ws ?_)⟩
  · rcases b_put_get is w1 ws k q (hl1.trans hl2.symm) hq with ⟨j, -, h2⟩ | ⟨h1, h2⟩
    · exact hP1 j q h2
    · refine (hP k q h2).kept (hk q.1 ((hP k q h2).lt) fun hA => ?_)
      rcases hA with ⟨k2, e, h⟩ | h
      · have h3 : (is.map (fun i => ws[i]?))[k2]? = some (some (q.1, e)) := by rw [hC, List.getElem?_map, h]; rfl
        rw [List.getElem?_map] at h3
        cases hi : is[k2]? with
        | none => rw [hi] at h3; cases h3
        | some i =>
          rw [hi] at h3
          have h4 : ws[i]? = some (q.1, e) := Option.some.inj h3
          have := hD.1 k i q (q.1, e) h2 h4 rfl
          subst this
          exact h1 (List.mem_of_getElem? hi)
      · have := (hP k q h2).lt
        omega
  · have e1 : is.map (fun i => (ws.map (fun q => q.1))[i]?) = (is.map (fun i => ws[i]?)).map (fun o => o.map (fun q => q.1)) := by
      rw [List.map_map]
      apply List.map_congr_left
      intro i _
      rw [List.getElem?_map]
      rfl
    rw [e1, hC, List.map_map]
    have e2 : w1.map (fun q => some q.1) = (w1.map (fun q => q.1)).map some := by rw [List.map_map]; rfl
    rw [e2, hw, List.map_map]
    rfl
/-- the class of arrays of arrays of int -/
def b_AO (U : State) : Prop := (Cond.arrayOver (.array .int)).before #[] U = true
theorem b_AO_moved {u U : State} (hvm : u.vm.Alike U.vm) (h : b_AO u) : b_AO U := by
  unfold b_AO Cond.before Cond.holds at h ⊢
  simp only [Cond.value] at h ⊢
  rw [show (FieldType.array FieldType.int).toString = "[I" from rfl] at h ⊢
  rw [hvm.findClass]
  cases hc : u.vm.findClass "[I" with
  | none => rw [hc] at h; simp at h
  | some comp =>
    rw [hc] at h
    rw [Option.bind_some] at h ⊢
    have hi : (U.vm.classes.findIdx? fun (x : Class) => match x.kind with | .array component _ => component == comp | _ => false) = (u.vm.classes.findIdx? fun (x : Class) => match x.kind with | .array component _ => component == comp | _ => false) := by
      have e1 := va_idx_bare U.vm comp
      have e2 := va_idx_bare u.vm comp
      first | rw [hvm.bare_eq] at e1 | rw [← hvm.bare_eq] at e1
      exact e1.symm.trans e2
    cases hz : (u.vm.classes.findIdx? fun (x : Class) => match x.kind with | .array component _ => component == comp | _ => false) with
    | none =>
      have h2 := (congrArg (fun o : Option Nat => (o.bind (fun c => (u.vm.classes[c]?).map fun (k : Class) => match k.kind with | .array _ ty => decide (ty = FieldType.array .int) && decide (u.vm.findClass ("[" ++ "[I") = some c) | _ => false) == some true)) hz).symm.trans h
      simp at h2
    | some cx =>
      have h2 := (congrArg (fun o : Option Nat => (o.bind (fun c => (u.vm.classes[c]?).map fun (k : Class) => match k.kind with | .array _ ty => decide (ty = FieldType.array .int) && decide (u.vm.findClass ("[" ++ "[I") = some c) | _ => false) == some true)) hz).symm.trans h
      refine (congrArg (fun o : Option Nat => (o.bind (fun c => (U.vm.classes[c]?).map fun (k : Class) => match k.kind with | .array _ ty => decide (ty = FieldType.array .int) && decide (U.vm.findClass ("[" ++ "[I") = some c) | _ => false) == some true)) (hi.trans hz)).trans ?_
      rw [Option.bind_some] at h2 ⊢
      cases hk : u.vm.classes[cx]? with
      | none => rw [hk] at h2; simp at h2
      | some k =>
        obtain ⟨k', hk', he⟩ := hvm.2.2 _ _ hk
        rw [hk] at h2
        rw [hk', Option.map_some, he]
        rw [Option.map_some] at h2
        rw [hvm.findClass]
        exact h2
end
section
/-! the tables of the class: three static rows that nobody writes -/
def b_tb : Nat → Int32 := fun k => match k with | 0 => 1 | 1 => 3 | _ => 2
def b_lo : Nat → Int32 := fun k => match k with | 0 => 1 | 1 => 0 | _ => 1
def b_hi : Nat → Int32 := fun k => match k with | 0 => 200 | 1 => 50 | _ => 500
def b_X (tb lo hi : Nat) (A : Nat → Prop) (U : State) (H : Heap) : Prop :=
  (va_Z "BeamTurnstiles$Hall" "TURNED_BITS" "[I" (.ref tb) A U H ∧ va_T .int tb 3 (fun j => .int (b_tb j)) A U H) ∧
  (va_Z "BeamTurnstiles" "LOWEST" "[I" (.ref lo) A U H ∧ va_T .int lo 3 (fun j => .int (b_lo j)) A U H) ∧
  (va_Z "BeamTurnstiles" "HIGHEST" "[I" (.ref hi) A U H ∧ va_T .int hi 3 (fun j => .int (b_hi j)) A U H) ∧
  (va_Nw (.methodLinkNest RX1 23 yX3_copyRow "BeamTurnstiles") U ∧ va_Nw (.methodLinkNest RX2 51 yX3_isNoGate "BeamTurnstiles") U)
theorem b_X.same {tb lo hi : Nat} {A : Nat → Prop} {u U : State} {H : Heap} (e : u.vm = U.vm) (h : b_X tb lo hi A u H) : b_X tb lo hi A U H := by
  have hvm : u.vm.Alike U.vm := e ▸ Vm.Alike.refl u.vm
  exact ⟨⟨h.1.1.moved hvm, h.1.2.moved hvm⟩, ⟨h.2.1.1.moved hvm, h.2.1.2.moved hvm⟩, ⟨h.2.2.1.1.moved hvm, h.2.2.1.2.moved hvm⟩, ⟨h.2.2.2.1.same rfl e, h.2.2.2.2.same rfl e⟩⟩
theorem b_X.warm {tb lo hi : Nat} {A : Nat → Prop} {u U : State} {H : Heap} (hW : u.WarmedH U.vm) (h : b_X tb lo hi A u H) : b_X tb lo hi A U H := by
  have hvm : u.vm.Alike U.vm := hW.alike
  exact ⟨⟨h.1.1.moved hvm, h.1.2.moved hvm⟩, ⟨h.2.1.1.moved hvm, h.2.1.2.moved hvm⟩, ⟨h.2.2.1.1.moved hvm, h.2.2.1.2.moved hvm⟩, ⟨va_Nw.warmM hW h.2.2.2.1, va_Nw.warmM hW h.2.2.2.2⟩⟩
theorem b_X.kept {tb lo hi : Nat} {A : Nat → Prop} {U : State} {H H1 : Heap} (h : b_X tb lo hi A U H) (hq : ∀ a : Nat, a < H.size → ¬ A a → H1[a]? = H[a]?) : b_X tb lo hi A U H1 :=
  ⟨⟨h.1.1.kept hq, h.1.2.kept hq⟩, ⟨h.2.1.1.kept hq, h.2.1.2.kept hq⟩, ⟨h.2.2.1.1.kept hq, h.2.2.1.2.kept hq⟩, h.2.2.2⟩
theorem b_X.narrow {tb lo hi : Nat} {A B : Nat → Prop} {U : State} {H : Heap} (h : b_X tb lo hi A U H) (hAB : ∀ q, B q → A q) : b_X tb lo hi B U H :=
  ⟨⟨h.1.1.narrow hAB, h.1.2.narrow hAB⟩, ⟨h.2.1.1.narrow hAB, h.2.1.2.narrow hAB⟩, ⟨h.2.2.1.1.narrow hAB, h.2.2.1.2.narrow hAB⟩, h.2.2.2⟩
/-- nothing more is asked -/
def b_X0 (_ : Nat → Prop) (_ : State) (_ : Heap) : Prop := True
/-- the class of rows of rows is there, and the constructors of the nest can be called -/
def b_XA (_ : Nat → Prop) (U : State) (_ : Heap) : Prop := b_AO U ∧ va_Nw (.methodLinkNest RX3 21 yX2_init "BeamTurnstiles") U ∧ va_Nw (.methodLinkNest RX3 28 yX1_init "BeamTurnstiles") U
abbrev b_T (cI cC cZ cG : ClassId) : List (ClassId × FieldType) := [(cI, .int), (cC, .char), (cZ, .boolean), (cG, .array .int)]
/-- what a reader asks; what a writer asks -/
def b_R (D : va_G) (tys : List (ClassId × FieldType)) (wc : va_W) (av : List Value) : Array Value → State → Prop := va_Pc av (fun U => va_P D vwCl wc U.heap ∧ va_K D vwCl tys U)
def b_W (D : va_G) (tys : List (ClassId × FieldType)) (X : (Nat → Prop) → State → Heap → Prop) (wc : va_W) (sz : Nat) (av : List Value) : Array Value → State → Prop :=
  va_Pc av (fun U => U.heap.size = sz ∧ va_P D vwCl wc U.heap ∧ va_K D vwCl tys U ∧ va_D (fun _ => True) wc ∧ X (va_A wc sz) U U.heap)
/-- a writer's end: the answer is v, the cells are w1 -/
def b_Qi (D : va_G) (v : Int32) (w1 : va_W) (A : Nat → Prop) : Array Value → State → Outcome → State → Prop := va_Qi (fun (r : Int32) (_ : Unit) => r = v) (fun _ t => va_P D vwCl w1 t.heap) A
def b_Qv (D : va_G) (w1 : va_W) (A : Nat → Prop) : Array Value → State → Outcome → State → Prop := va_Qv (fun (_ : Unit) => True) (fun _ t => va_P D vwCl w1 t.heap) A
/-- X stays over a frame's begin -/
def b_Xok (X : (Nat → Prop) → State → Heap → Prop) : Prop := (∀ (A : Nat → Prop) (u U : State) (H : Heap), u.vm = U.vm → X A u H → X A U H) ∧ ∀ (A : Nat → Prop) (u U : State) (H : Heap), u.WarmedH U.vm → X A u H → X A U H
theorem b_Xok_X (tb lo hi : Nat) : b_Xok (b_X tb lo hi) := ⟨fun _ _ _ _ e h => h.same e, fun _ _ _ _ hW h => h.warm hW⟩
theorem b_Xok_0 : b_Xok b_X0 := ⟨fun _ _ _ _ _ _ => trivial, fun _ _ _ _ _ _ => trivial⟩
theorem b_Xok_A : b_Xok b_XA := ⟨fun _ u _ _ e h => ⟨b_AO_moved (e ▸ Vm.Alike.refl u.vm) h.1, h.2.1.same rfl e, h.2.2.same rfl e⟩, fun _ _ _ _ hW h => ⟨b_AO_moved hW.alike h.1, va_Nw.warmM hW h.2.1, va_Nw.warmM hW h.2.2⟩⟩
theorem b_R_blind (D : va_G) (tys : List (ClassId × FieldType)) (wc : va_W) (av : List Value) : FrameBlind (b_R D tys wc av) := fun a U g mk q => by
  obtain ⟨q0, qP, qK⟩ := q
  exact ⟨q0, qP, va_K.moved (u := U) (U := U.calling g mk a) (Vm.Alike.refl U.vm) qK⟩
theorem b_W_blind (D : va_G) (tys : List (ClassId × FieldType)) {X : (Nat → Prop) → State → Heap → Prop} (hX : b_Xok X) (wc : va_W) (sz : Nat) (av : List Value) : FrameBlind (b_W D tys X wc sz av) := fun a U g mk q => by
  obtain ⟨q0, q1, qP, qK, qD, qX⟩ := q
  exact ⟨q0, q1, qP, va_K.moved (u := U) (U := U.calling g mk a) (Vm.Alike.refl U.vm) qK, qD, hX.1 _ U (U.calling g mk a) _ rfl qX⟩
section BC
variable {p : Program} {l : Launch} {e : Env} {R : Room} {s : State} {m : MethodId} {args : Array Value} {below : List Frame} {meth : Method} {c : Code} {H : Heap} {locs : List Loc} {cells slots : Nat} {Q : State → Prop}
variable {cc : ByteArray} {pc : Nat} {ls : Array Slot} {rest st0 : List Value} {D : va_G} {A0 : Nat → Prop} {tys : List (ClassId × FieldType)} {ws wc w1 : va_W} {H0 : Heap} {X : (Nat → Prop) → State → Heap → Prop}
variable {b : Nat} {As : List Value}
theorem b_pRV (hK : va_K D vwCl tys s) (hP : va_P D vwCl ws H) (is : List Nat) (hs : is.filterMap (fun i => ws[i]?) = wc) {q0 ci : Nat} {fs : List Value} {q : vw_C} (hc : vwCl[ci]? = some q) (he : wc[q0]? = some (b, .inr (ci, fs))) : PreV s H q.1 b (b_R D tys wc (.ref b :: As)) As :=
  ⟨b_R_blind D tys wc _, va_recv hK (hP.sub is hs) hc he, fun U hU hW => ⟨rfl, by rw [hU]; exact hP.sub is hs, va_K.moved hW.alike hK⟩⟩
theorem b_pRS (hK : va_K D vwCl tys s) (hP : va_P D vwCl ws H) (is : List Nat) (hs : is.filterMap (fun i => ws[i]?) = wc) : PreS s H (b_R D tys wc As) As :=
  ⟨b_R_blind D tys wc _, fun U hU hW => ⟨rfl, by rw [hU]; exact hP.sub is hs, va_K.moved hW.alike hK⟩⟩
theorem b_pWV (hK : va_K D vwCl tys s) (hP : va_P D vwCl ws H) (hD : va_D A0 ws) (hXo : b_Xok X) (is : List Nat) (hs : is.filterMap (fun i => ws[i]?) = wc) (hn : va_nd is = true) (hC : is.map (fun i => ws[i]?) = wc.map some) (hX : X (va_A wc H.size) s H) {q0 ci : Nat} {fs : List Value} {q : vw_C} (hc : vwCl[ci]? = some q) (he : wc[q0]? = some (b, .inr (ci, fs))) : PreV s H q.1 b (b_W D tys X wc H.size (.ref b :: As)) As :=
  ⟨b_W_blind D tys hXo wc _ _, va_recv hK (hP.sub is hs) hc he, fun U hU hW => ⟨rfl, by rw [hU], by rw [hU]; exact hP.sub is hs, va_K.moved hW.alike hK, (hD.sub is hn hC).weaken (fun _ _ _ _ => trivial), by rw [hU]; exact hXo.2 _ _ _ _ hW hX⟩⟩
theorem b_pWS (hK : va_K D vwCl tys s) (hP : va_P D vwCl ws H) (hD : va_D A0 ws) (hXo : b_Xok X) (is : List Nat) (hs : is.filterMap (fun i => ws[i]?) = wc) (hn : va_nd is = true) (hC : is.map (fun i => ws[i]?) = wc.map some) (hX : X (va_A wc H.size) s H) : PreS s H (b_W D tys X wc H.size As) As :=
  ⟨b_W_blind D tys hXo wc _ _, fun U hU hW => ⟨rfl, by rw [hU], by rw [hU]; exact hP.sub is hs, va_K.moved hW.alike hK, (hD.sub is hn hC).weaken (fun _ _ _ _ => trivial), by rw [hU]; exact hXo.2 _ _ _ _ hW hX⟩⟩
/-- the premise at a call -/
theorem b_Xc {tb lo hi : Nat} (hX : b_X tb lo hi A0 s s.heap) (hD : va_D A0 ws) (hS : va_S A0 s.heap H locs) (hA : ∀ q, s.heap.size ≤ q → A0 q) (is : List Nat) (hC : is.map (fun i => ws[i]?) = wc.map some) : b_X tb lo hi (va_A wc H.size) s H :=
  (hX.kept hS.2.1).narrow (va_free hD hS hA is hC)
/-- a reader's call -/
theorem b_cR {v : Int32} {a : Array Value} (hr : va_Run p l e R s m args below meth c H locs cells slots 0 0 (F0 m pc ls st0) rest (vp_Si (fun r => r = v) a) (fun _ => False)) (kk : W p l e R s m args below meth c H locs cells slots Q (F0 m (pc + 3) ls (.int v :: rest))) : W p l e R s m args below meth c H locs cells slots Q (F0 m pc ls st0) :=
  vp_callSi (va_Run.run hr) (fun r hv => hv ▸ kk)
theorem b_cW {v : Int32} {a : Array Value} (hr : va_Run p l e R s m args below meth c H locs cells slots 0 0 (F0 m pc ls st0) rest (b_Qi D v w1 (va_A wc H.size) a) (va_A wc H.size)) (hP : va_P D vwCl ws H) (hD : va_D A0 ws) (hS : va_S A0 H0 H locs) (hA : ∀ q, H0.size ≤ q → A0 q) (is : List Nat) (hC : is.map (fun i => ws[i]?) = wc.map some) (hw : w1.map (fun q => q.1) = wc.map (fun q => q.1))
    (kk : ∀ (H1 : Heap) (locs1 : List Loc), va_P D vwCl (b_put ws is w1) H1 → va_D A0 (b_put ws is w1) → va_S A0 H0 H1 locs1 → W p l e R s m args below meth c H1 locs1 cells slots Q (F0 m (pc + 3) ls (.int v :: rest))) : W p l e R s m args below meth c H locs cells slots Q (F0 m pc ls st0) := by
  have hF := va_free hD hS hA is hC
  refine va_calli hr hS (fun q _ h => hF q h) hF (fun r u t H1 locs1 ht _ hv hB _ hk hS1 => ?_)
  subst hv
  rw [ht] at hB
  obtain ⟨h1, h2⟩ := b_join hP hD is hC hw hk hB
  exact kk H1 locs1 h1 h2 hS1
theorem b_cV {a : Array Value} (hr : va_Run p l e R s m args below meth c H locs cells slots 0 0 (F0 m pc ls st0) rest (b_Qv D w1 (va_A wc H.size) a) (va_A wc H.size)) (hP : va_P D vwCl ws H) (hD : va_D A0 ws) (hS : va_S A0 H0 H locs) (hA : ∀ q, H0.size ≤ q → A0 q) (is : List Nat) (hC : is.map (fun i => ws[i]?) = wc.map some) (hw : w1.map (fun q => q.1) = wc.map (fun q => q.1))
    (kk : ∀ (H1 : Heap) (locs1 : List Loc), va_P D vwCl (b_put ws is w1) H1 → va_D A0 (b_put ws is w1) → va_S A0 H0 H1 locs1 → W p l e R s m args below meth c H1 locs1 cells slots Q (F0 m (pc + 3) ls rest)) : W p l e R s m args below meth c H locs cells slots Q (F0 m pc ls st0) := by
  have hF := va_free hD hS hA is hC
  refine va_callv hr hS (fun q _ h => hF q h) hF (fun u t H1 locs1 ht _ _ hB _ hk hS1 => ?_)
  rw [ht] at hB
  obtain ⟨h1, h2⟩ := b_join hP hD is hC hw hk hB
  exact kk H1 locs1 h1 h2 hS1
/-- the top of the stack in another word -/
theorem b_re {x y : Int32} (h : x = y) (k : W p l e R s m args below meth c H locs cells slots Q (F0 m pc ls (.int y :: rest))) : W p l e R s m args below meth c H locs cells slots Q (F0 m pc ls (.int x :: rest)) := h ▸ k
theorem b_rl {x y : Int64} (h : x = y) (k : W p l e R s m args below meth c H locs cells slots Q (F0 m pc ls (.long y :: rest))) : W p l e R s m args below meth c H locs cells slots Q (F0 m pc ls (.long x :: rest)) := h ▸ k
theorem b_iald (hexec : p.tables.exec = Jvm.exec) (hb : c.code = cc) (hK : va_K D vwCl tys s) (hP : va_P D vwCl ws H) (q0 t0 : Nat) {cA : ClassId} {n a : Nat} {f : Nat → Int32} (ha : ws[q0]? = some (a, .inl (cA, n, .inl f))) (ht : tys[t0]? = some (cA, .int)) {i : Int32} (k : Nat) (hi : i = nI k) (hk : k < n) (hn : n < 2 ^ 31) (hdg : decode cc pc = .ok (.iaload, 1))
    (kk : W p l e R s m args below meth c H locs cells slots Q (F0 m (pc + 1) ls (.int (f k) :: rest))) : W p l e R s m args below meth c H locs cells slots Q (F0 m pc ls (.int i :: .ref a :: rest)) := by
  subst hi
  refine va_iald hexec hb hK hP q0 t0 ha ht (vp_in_nI hk hn) hdg ?_
  rw [nI_clamp (Nat.lt_trans hk hn)]
  exact kk
theorem b_cald (hexec : p.tables.exec = Jvm.exec) (hb : c.code = cc) (hK : va_K D vwCl tys s) (hP : va_P D vwCl ws H) (q0 t0 : Nat) {cA : ClassId} {n a : Nat} {f : Nat → Int32} (ha : ws[q0]? = some (a, .inl (cA, n, .inl f))) (ht : tys[t0]? = some (cA, .char)) {i : Int32} (k : Nat) (hi : i = nI k) (hk : k < n) (hn : n < 2 ^ 31) (hdg : decode cc pc = .ok (.caload, 1))
    (kk : W p l e R s m args below meth c H locs cells slots Q (F0 m (pc + 1) ls (.int (f k) :: rest))) : W p l e R s m args below meth c H locs cells slots Q (F0 m pc ls (.int i :: .ref a :: rest)) := by
  subst hi
  refine va_cald hexec hb hK hP q0 t0 ha ht (vp_in_nI hk hn) hdg ?_
  rw [nI_clamp (Nat.lt_trans hk hn)]
  exact kk
theorem b_zald (hexec : p.tables.exec = Jvm.exec) (hb : c.code = cc) (hK : va_K D vwCl tys s) (hP : va_P D vwCl ws H) (q0 t0 : Nat) {cA : ClassId} {n a : Nat} {f : Nat → Int32} (ha : ws[q0]? = some (a, .inl (cA, n, .inl f))) (ht : tys[t0]? = some (cA, .boolean)) {i : Int32} (k : Nat) (hi : i = nI k) (hk : k < n) (hn : n < 2 ^ 31) (hdg : decode cc pc = .ok (.baload, 1))
    (kk : W p l e R s m args below meth c H locs cells slots Q (F0 m (pc + 1) ls (.int (f k) :: rest))) : W p l e R s m args below meth c H locs cells slots Q (F0 m pc ls (.int i :: .ref a :: rest)) := by
  subst hi
  refine va_zald hexec hb hK hP q0 t0 ha ht (vp_in_nI hk hn) hdg ?_
  rw [nI_clamp (Nat.lt_trans hk hn)]
  exact kk
theorem b_iast (hexec : p.tables.exec = Jvm.exec) (hb : c.code = cc) (hK : va_K D vwCl tys s) (hP : va_P D vwCl ws H) (hD : va_D A0 ws) (hS : va_S A0 H0 H locs) (q0 t0 : Nat) {cA : ClassId} {n a : Nat} {f : Nat → Int32} (ha : ws[q0]? = some (a, .inl (cA, n, .inl f))) (ht : tys[t0]? = some (cA, .int)) {i x : Int32} (k : Nat) (hi : i = nI k) (hk : k < n) (hn : n < 2 ^ 31) (hdg : decode cc pc = .ok (.iastore, 1))
    (kk : ∀ (H1 : Heap) (locs1 : List Loc), va_P D vwCl (ws.set q0 (a, .inl (cA, n, .inl (upd f k x)))) H1 → va_D A0 (ws.set q0 (a, .inl (cA, n, .inl (upd f k x)))) → va_S A0 H0 H1 locs1 → W p l e R s m args below meth c H1 locs1 cells slots Q (F0 m (pc + 1) ls rest)) : W p l e R s m args below meth c H locs cells slots Q (F0 m pc ls (.int x :: .int i :: .ref a :: rest)) := by
  subst hi
  refine va_iast hexec hb hK hP hD hS q0 t0 ha ht (vp_in_nI hk hn) hdg ?_
  rw [nI_clamp (Nat.lt_trans hk hn)]
  exact kk
theorem b_cast (hexec : p.tables.exec = Jvm.exec) (hb : c.code = cc) (hK : va_K D vwCl tys s) (hP : va_P D vwCl ws H) (hD : va_D A0 ws) (hS : va_S A0 H0 H locs) (q0 t0 : Nat) {cA : ClassId} {n a : Nat} {f : Nat → Int32} (ha : ws[q0]? = some (a, .inl (cA, n, .inl f))) (ht : tys[t0]? = some (cA, .char)) {i x z : Int32} (k : Nat) (hi : i = nI k) (hk : k < n) (hn : n < 2 ^ 31) (hz : vp_nar .char x = z) (hdg : decode cc pc = .ok (.castore, 1))
    (kk : ∀ (H1 : Heap) (locs1 : List Loc), va_P D vwCl (ws.set q0 (a, .inl (cA, n, .inl (upd f k z)))) H1 → va_D A0 (ws.set q0 (a, .inl (cA, n, .inl (upd f k z)))) → va_S A0 H0 H1 locs1 → W p l e R s m args below meth c H1 locs1 cells slots Q (F0 m (pc + 1) ls rest)) : W p l e R s m args below meth c H locs cells slots Q (F0 m pc ls (.int x :: .int i :: .ref a :: rest)) := by
  subst hi
  subst hz
  refine va_cast hexec hb hK hP hD hS q0 t0 ha ht (vp_in_nI hk hn) hdg ?_
  rw [nI_clamp (Nat.lt_trans hk hn)]
  exact kk
theorem b_zast (hexec : p.tables.exec = Jvm.exec) (hb : c.code = cc) (hK : va_K D vwCl tys s) (hP : va_P D vwCl ws H) (hD : va_D A0 ws) (hS : va_S A0 H0 H locs) (q0 t0 : Nat) {cA : ClassId} {n a : Nat} {f : Nat → Int32} (ha : ws[q0]? = some (a, .inl (cA, n, .inl f))) (ht : tys[t0]? = some (cA, .boolean)) {i x z : Int32} (k : Nat) (hi : i = nI k) (hk : k < n) (hn : n < 2 ^ 31) (hz : vp_nar .boolean x = z) (hdg : decode cc pc = .ok (.bastore, 1))
    (kk : ∀ (H1 : Heap) (locs1 : List Loc), va_P D vwCl (ws.set q0 (a, .inl (cA, n, .inl (upd f k z)))) H1 → va_D A0 (ws.set q0 (a, .inl (cA, n, .inl (upd f k z)))) → va_S A0 H0 H1 locs1 → W p l e R s m args below meth c H1 locs1 cells slots Q (F0 m (pc + 1) ls rest)) : W p l e R s m args below meth c H locs cells slots Q (F0 m pc ls (.int x :: .int i :: .ref a :: rest)) := by
  subst hi
  subst hz
  refine va_zast hexec hb hK hP hD hS q0 t0 ha ht (vp_in_nI hk hn) hdg ?_
  rw [nI_clamp (Nat.lt_trans hk hn)]
  exact kk
/-- a row of a row of rows -/
theorem b_gald (hexec : p.tables.exec = Jvm.exec) (hb : c.code = cc) (hK : va_K D vwCl tys s) (hP : va_P D vwCl ws H) (q0 t0 : Nat) {cA : ClassId} {n a r : Nat} {f : Nat → Option Nat} (ha : ws[q0]? = some (a, .inl (cA, n, .inr (.inr (.inr (.inr f)))))) (ht : tys[t0]? = some (cA, .array .int)) {i : Int32} (k : Nat) (hi : i = nI k) (hk : k < n) (hn : n < 2 ^ 31) (hf : f k = some r) (hdg : decode cc pc = .ok (.aaload, 1))
    (kk : W p l e R s m args below meth c H locs cells slots Q (F0 m (pc + 1) ls (.ref r :: rest))) : W p l e R s m args below meth c H locs cells slots Q (F0 m pc ls (.int i :: .ref a :: rest)) := by
  subst hi
  have hlt : (nI k).toNatClampNeg < n := by rw [nI_clamp (Nat.lt_trans hk hn)]; exact hk
  have hin := vp_in_nI hk hn
  refine W.aald (v := va_rf (f (nI k).toNatClampNeg)) (ty := .array .int) hexec hb (hP q0 _ ha) ((hK.2 t0 _ ht).1 n (fun j => va_rf (f j))) rfl (fun q => by cases q) (by show ¬ (_ < 0 ∨ (arrV _ _ _).slots.size ≤ _); rw [arrV_size]; exact hin) (by show (arrV _ _ _).slots[_]? = _; rw [arrV_read _ _ hlt]) rfl rfl hdg ?_
  rw [nI_clamp (Nat.lt_trans hk hn), hf]
  exact kk
end BC
/-- a method's begin: a reader, a writer -/
theorem b_enterR {l : Launch} {y : MethodName} {wy wy' : List Cond} {rm : Room} {D : va_G} {tys : List (ClassId × FieldType)} {WS : va_W} {av : List Value} {Qc : Array Value → State → Outcome → State → Prop} {cc : ByteArray} {maxL : Nat} {ret : Option FieldType}
    (hy : plainName y.cls = true) (hw : wy = Cond.code y cc maxL ret :: wy') (hn : (lg_sl av).length ≤ maxL)
    (body : ∀ (p : Program) (e : Env) (s : State) (m : MethodId) (below : List Frame) (meth : Method) (c : Code) (ls : Array Slot), p.tables.exec = Jvm.exec → c.code = cc → meth.sig.returnType = ret → c.maxLocals = maxL → s.vm.findClass y.cls = some m.cls → (∀ w ∈ wy, w.before av.toArray s = true) → meth.locks = false → va_P D vwCl WS s.heap → va_K D vwCl tys s → lv_has ls maxL (lv_args 0 av) → ∀ Q : State → Prop, Q = MQ below Qc av.toArray s 0 0 (fun _ => False) →
      W p l e rm s m av.toArray below meth c s.heap [] 0 0 Q (F0 m 0 ls [])) : Met l y wy rm (b_R D tys WS av) Qc 0 0 (fun _ => False) := by
  refine Met.ofW hy hw ?_
  intro p e s m args below meth c s₁ B hml hv
  obtain ⟨rfl, hP, hK⟩ := hv
  have hl := lv_entry av (n := maxL) hn
  rw [lg_entry_eq]
  exact body p e s m below meth c _ B.exec B.bytes B.returns hml (findClass_of_methodNamed B.named) (atoms_spec (ws := wy) B.pre) B.notSynchronized hP hK hl _ rfl
theorem b_enterW {l : Launch} {y : MethodName} {wy wy' : List Cond} {rm : Room} {D : va_G} {tys : List (ClassId × FieldType)} {X : (Nat → Prop) → State → Heap → Prop} {WS : va_W} {sz : Nat} {av : List Value} {Qc : (Nat → Prop) → Array Value → State → Outcome → State → Prop} {cc : ByteArray} {maxL mc ms : Nat} {ret : Option FieldType}
    (hy : plainName y.cls = true) (hw : wy = Cond.code y cc maxL ret :: wy') (hn : (lg_sl av).length ≤ maxL)
    (body : ∀ (p : Program) (e : Env) (s : State) (m : MethodId) (below : List Frame) (meth : Method) (c : Code) (ls : Array Slot) (A : Nat → Prop), p.tables.exec = Jvm.exec → c.code = cc → meth.sig.returnType = ret → c.maxLocals = maxL → s.vm.findClass y.cls = some m.cls → (∀ w ∈ wy, w.before av.toArray s = true) → meth.locks = false → meth.name = y.name → va_P D vwCl WS s.heap → va_K D vwCl tys s → va_D A WS → (∀ q, s.heap.size ≤ q → A q) → va_S A s.heap s.heap [] → X A s s.heap → lv_has ls maxL (lv_args 0 av) → ∀ Q : State → Prop, Q = MQ below (Qc A) av.toArray s mc ms A →
      W p l e rm s m av.toArray below meth c s.heap [] 0 0 Q (F0 m 0 ls [])) : Met l y wy rm (b_W D tys X WS sz av) (Qc (va_A WS sz)) mc ms (va_A WS sz) := by
  refine Met.ofW hy hw ?_
  intro p e s m args below meth c s₁ B hml hv
  obtain ⟨rfl, hsz, hP, hK, hD0, hX⟩ := hv
  subst hsz
  have hl := lv_entry av (n := maxL) hn
  rw [lg_entry_eq]
  exact body p e s m below meth c _ _ B.exec B.bytes B.returns hml (findClass_of_methodNamed B.named) (atoms_spec (ws := wy) B.pre) B.notSynchronized (name_of_methodNamed B.named B.method).1 hP hK hD0.self (fun q h => Or.inr h) va_S.rf hX hl _ rfl
section BR
variable {p : Program} {l : Launch} {e : Env} {R : Room} {s : State} {m : MethodId} {args : Array Value} {below : List Frame} {meth : Method} {c : Code} {H : Heap} {locs : List Loc}
variable {cc : ByteArray} {pc : Nat} {ls : Array Slot} {D : va_G} {A : Nat → Prop} {w1 : va_W}
/-- the ends -/
theorem b_retR {v r : Int32} (hexec : p.tables.exec = Jvm.exec) (hb : c.code = cc) (hr : meth.sig.returnType = some .int) (hlocks : meth.locks = false) (hv : r = v) (hdg : decode cc pc = .ok (.ireturn, 1)) : W p l e R s m args below meth c s.heap [] 0 0 (MQ below (vp_Si (fun r => r = v)) args s 0 0 (fun _ => False)) (F0 m pc ls [.int r]) :=
  W.iret (v := r) hexec hb hr (fun t ht hW => ⟨r, rfl, hv, ht⟩) (fun _ h => by cases h) hdg hlocks
theorem b_retRZ {v r : Int32} (hexec : p.tables.exec = Jvm.exec) (hb : c.code = cc) (hr : meth.sig.returnType = some .boolean) (hlocks : meth.locks = false) (hz : narrow .boolean (.int r) = .int r) (hv : r = v) (hdg : decode cc pc = .ok (.ireturn, 1)) : W p l e R s m args below meth c s.heap [] 0 0 (MQ below (vp_Si (fun r => r = v)) args s 0 0 (fun _ => False)) (F0 m pc ls [.int r]) :=
  W.zret (v := r) hexec hb hr hz (fun t ht hW => ⟨r, rfl, hv, ht⟩) (fun _ h => by cases h) hdg hlocks
theorem b_retW {v r : Int32} (hexec : p.tables.exec = Jvm.exec) (hb : c.code = cc) (hr : meth.sig.returnType = some .int) (hlocks : meth.locks = false) (hS : va_S A s.heap H locs) (hv : r = v) (hP : va_P D vwCl w1 H) (hdg : decode cc pc = .ok (.ireturn, 1)) : W p l e R s m args below meth c H locs 0 0 (MQ below (b_Qi D v w1 A) args s 0 0 A) (F0 m pc ls [.int r]) :=
  W.iret (v := r) hexec hb hr (fun t ht hW => ⟨⟨r, (), rfl, hv, by show va_P D vwCl w1 t.heap; rw [ht]; exact hP⟩, hS.F ht⟩) hS.2.2 hdg hlocks
theorem b_retWZ {v r : Int32} (hexec : p.tables.exec = Jvm.exec) (hb : c.code = cc) (hr : meth.sig.returnType = some .boolean) (hlocks : meth.locks = false) (hz : narrow .boolean (.int r) = .int r) (hS : va_S A s.heap H locs) (hv : r = v) (hP : va_P D vwCl w1 H) (hdg : decode cc pc = .ok (.ireturn, 1)) : W p l e R s m args below meth c H locs 0 0 (MQ below (b_Qi D v w1 A) args s 0 0 A) (F0 m pc ls [.int r]) :=
  W.zret (v := r) hexec hb hr hz (fun t ht hW => ⟨⟨r, (), rfl, hv, by show va_P D vwCl w1 t.heap; rw [ht]; exact hP⟩, hS.F ht⟩) hS.2.2 hdg hlocks
theorem b_retV (hexec : p.tables.exec = Jvm.exec) (hb : c.code = cc) (hr : meth.sig.returnType = none) (hlocks : meth.locks = false) (hS : va_S A s.heap H locs) (hP : va_P D vwCl w1 H) (hdg : decode cc pc = .ok (.return_, 1)) : W p l e R s m args below meth c H locs 0 0 (MQ below (b_Qv D w1 A) args s 0 0 A) (F0 m pc ls []) :=
  W.vret hexec hb hr (fun t ht hW => ⟨⟨(), rfl, trivial, by show va_P D vwCl w1 t.heap; rw [ht]; exact hP⟩, hS.F ht⟩) hS.2.2 hdg hlocks
end BR
/-- a truth as the machine holds it -/
def b_i (b : Prop) [Decidable b] : Int32 := if b then 1 else 0
theorem b_i_t {b : Prop} [Decidable b] (h : b) : b_i b = 1 := if_pos h
theorem b_i_f {b : Prop} [Decidable b] (h : ¬ b) : b_i b = 0 := if_neg h
theorem b_i_0 {b : Prop} [Decidable b] : b_i b = 0 ↔ ¬ b := by
  unfold b_i
  by_cases h : b
  · rw [if_pos h]; exact ⟨fun q => absurd q (by decide), fun q => absurd h q⟩
  · rw [if_neg h]; exact ⟨fun _ => h, fun _ => rfl⟩
theorem b_i_nar {b : Prop} [Decidable b] : narrow .boolean (.int (b_i b)) = .int (b_i b) := by
  unfold b_i
  by_cases h : b
  · rw [if_pos h]; rfl
  · rw [if_neg h]; rfl
end
section
/-! the hall's row f: what each method does to it; a gate's part begins at 8 + g * 13 -/
def h_become (f : Nat → Int32) (x : Int32) : Nat → Int32 := if x ≤ upd f 4 x 5 then upd f 4 x else upd (upd f 4 x) 5 x
def h_more (f : Nat → Int32) : Nat → Int32 := if h_become f (f 4 + 1) 4 ≤ h_become f (f 4 + 1) 2 then h_become f (f 4 + 1) else upd (h_become f (f 4 + 1)) 6 (h_become f (f 4 + 1) 6 + 1)
def h_less (f : Nat → Int32) : Nat → Int32 := if f 4 ≤ 0 then upd f 7 (f 7 + 1) else upd f 4 (f 4 - 1)
def h_come1 (f : Nat → Int32) (P w : Nat) : Nat → Int32 := if f (P + 4) = nI w then (if f 1 < f (P + 1) - f (P + 12) then f else upd f (P + 10) (f (P + 10) + 1)) else f
def h_come2 (f : Nat → Int32) (P w : Nat) (b : Int32) : Nat → Int32 :=
  let f2 := upd f (P + w) (f (P + w) + 1)
  let f3 := upd f2 (P + 11) (f2 (P + 11) + (f2 3 - b))
  let f4 := upd f3 (P + 4) (nI w)
  upd f4 (P + 12) (f4 3)
def h_come (f : Nat → Int32) (P w : Nat) : Nat → Int32 := h_come2 (h_come1 f P w) P w (f (P + 1))
def h_end1 (f : Nat → Int32) (P : Nat) : Nat → Int32 := if f 3 - f (P + 1) < f 0 then f else upd f (P + 9) (f (P + 9) + 1)
def h_end2 (f : Nat → Int32) (P : Nat) : Nat → Int32 := if f (P + 3) = 0 then upd f (P + 8) (f (P + 8) + 1) else if f (P + 2) = 4 then h_more (h_come f P 5) else if f (P + 2) = (-4) then h_less (h_come f P 6) else upd f (P + 7) (f (P + 7) + 1)
def h_end (f : Nat → Int32) (P : Nat) : Nat → Int32 := h_end2 (h_end1 f P) P
def h_begin (f : Nat → Int32) (P : Nat) : Nat → Int32 := upd (upd (upd f (P + 1) (f 3)) (P + 2) 0) (P + 3) 1
def h_goBy (f : Nat → Int32) (t : Int32) : Nat → Int32 := upd f 3 (f 3 + t)
abbrev h_blk (f : Nat → Int32) (g : Nat) : Prop := (¬ f (8 + g * 13 + 0) = 0) ∧ ¬ f 3 - f (8 + g * 13 + 1) < f 0
def h_bm (f : Nat → Int32) : Nat → Int32
  | 0 => 0
  | k + 1 => if h_blk f k then h_bm f k ||| ((1 : Int32) <<< (nI k &&& 31)) else h_bm f k
def h_um (f : Nat → Int32) : Nat → Int32
  | 0 => 0
  | k + 1 => if ¬ f (8 + k * 13 + 0) = 0 then h_um f k ||| ((1 : Int32) <<< (nI k &&& 31)) else h_um f k
def h_sum (f : Nat → Int32) (w : Nat) : Nat → Int32
  | 0 => 0
  | k + 1 => h_sum f w k + f (8 + k * 13 + w)
def h_tell (f : Nat → Int32) (g w : Nat) : Int32 :=
  if w = 1 then (if ¬ f (8 + g * 13 + 0) = 0 then f (8 + g * 13 + 1) else -6) else
  if w = 2 then (if ¬ f (8 + g * 13 + 0) = 0 then (if ¬ f (8 + g * 13 + 3) = 0 then f (8 + g * 13 + 2) + 4 else -6) else -6) else
  if w = 3 then (if ¬ f (8 + g * 13 + 0) = 0 then f (8 + g * 13 + 3) else -6) else
  if w = 4 then b_i (h_blk f g) else f (8 + g * 13 + w)
def h_change1 (f : Nat → Int32) (P : Nat) : Nat → Int32 := if f (P + 0) = 0 then h_begin f P else f
abbrev h_look (f : Nat → Int32) (P bm : Nat) : Int32 := f (P + 0) ^^^ b_tb bm
def h_change2 (f : Nat → Int32) (P bm : Nat) (b k : Int32) : Nat → Int32 := if bm = 2 then upd f (P + 3) 0 else upd f (P + 2) (f (P + 2) + (if k = (b + 1) &&& 3 then 1 else (-1)))
def h_change3 (f : Nat → Int32) (P : Nat) (k : Int32) : Nat → Int32 := if k = 0 then h_end (upd f (P + 0) k) P else upd f (P + 0) k
def h_change (f : Nat → Int32) (g bm : Nat) : Nat → Int32 := h_change3 (h_change2 (h_change1 f (8 + g * 13)) (8 + g * 13) bm (f (8 + g * 13 + 0)) (h_look f (8 + g * 13) bm)) (8 + g * 13) (h_look f (8 + g * 13) bm)
def h_free (f : Nat → Int32) (g : Nat) : Nat → Int32 := h_end (upd (upd f (8 + g * 13 + 0) 0) (8 + g * 13 + 3) 0) (8 + g * 13)
theorem b_eqP {D : va_G} {cl : List vw_C} {w1 w2 : va_W} {H : Heap} (h : w1 = w2) (hP : va_P D cl w1 H) : va_P D cl w2 H := h ▸ hP
theorem b_not6 {i : Nat} (h : i ≤ 6) (c : ¬ i < 6) : i = 6 := by omega

theorem hy_X0_partOf : yX0_partOf.cls = RX0 ∧ yX0_partOf.cls ≠ "java/lang/invoke/MethodHandle" ∧ yX0_partOf.cls ≠ "java/lang/invoke/VarHandle" ∧ (parseMethodDescriptor yX0_partOf.desc).map (fun d => d.parameters.length) = some 1 := by decide +kernel
theorem hyS_X0_partOf : yX0_partOf.cls ≠ "java/lang/invoke/MethodHandle" ∧ yX0_partOf.cls ≠ "java/lang/invoke/VarHandle" ∧ (parseMethodDescriptor yX0_partOf.desc).map (fun d => d.parameters.length) = some 1 := hy_X0_partOf.2
theorem hy_X0_change : yX0_change.cls = RX0 ∧ yX0_change.cls ≠ "java/lang/invoke/MethodHandle" ∧ yX0_change.cls ≠ "java/lang/invoke/VarHandle" ∧ (parseMethodDescriptor yX0_change.desc).map (fun d => d.parameters.length) = some 2 := by decide +kernel
theorem hyS_X0_change : yX0_change.cls ≠ "java/lang/invoke/MethodHandle" ∧ yX0_change.cls ≠ "java/lang/invoke/VarHandle" ∧ (parseMethodDescriptor yX0_change.desc).map (fun d => d.parameters.length) = some 2 := hy_X0_change.2
theorem hy_X0_free : yX0_free.cls = RX0 ∧ yX0_free.cls ≠ "java/lang/invoke/MethodHandle" ∧ yX0_free.cls ≠ "java/lang/invoke/VarHandle" ∧ (parseMethodDescriptor yX0_free.desc).map (fun d => d.parameters.length) = some 1 := by decide +kernel
theorem hyS_X0_free : yX0_free.cls ≠ "java/lang/invoke/MethodHandle" ∧ yX0_free.cls ≠ "java/lang/invoke/VarHandle" ∧ (parseMethodDescriptor yX0_free.desc).map (fun d => d.parameters.length) = some 1 := hy_X0_free.2
theorem hy_X0_begin : yX0_begin.cls = RX0 ∧ yX0_begin.cls ≠ "java/lang/invoke/MethodHandle" ∧ yX0_begin.cls ≠ "java/lang/invoke/VarHandle" ∧ (parseMethodDescriptor yX0_begin.desc).map (fun d => d.parameters.length) = some 1 := by decide +kernel
theorem hyS_X0_begin : yX0_begin.cls ≠ "java/lang/invoke/MethodHandle" ∧ yX0_begin.cls ≠ "java/lang/invoke/VarHandle" ∧ (parseMethodDescriptor yX0_begin.desc).map (fun d => d.parameters.length) = some 1 := hy_X0_begin.2
theorem hy_X0_end : yX0_end.cls = RX0 ∧ yX0_end.cls ≠ "java/lang/invoke/MethodHandle" ∧ yX0_end.cls ≠ "java/lang/invoke/VarHandle" ∧ (parseMethodDescriptor yX0_end.desc).map (fun d => d.parameters.length) = some 1 := by decide +kernel
theorem hyS_X0_end : yX0_end.cls ≠ "java/lang/invoke/MethodHandle" ∧ yX0_end.cls ≠ "java/lang/invoke/VarHandle" ∧ (parseMethodDescriptor yX0_end.desc).map (fun d => d.parameters.length) = some 1 := hy_X0_end.2
theorem hy_X0_comeThrough : yX0_comeThrough.cls = RX0 ∧ yX0_comeThrough.cls ≠ "java/lang/invoke/MethodHandle" ∧ yX0_comeThrough.cls ≠ "java/lang/invoke/VarHandle" ∧ (parseMethodDescriptor yX0_comeThrough.desc).map (fun d => d.parameters.length) = some 2 := by decide +kernel
theorem hyS_X0_comeThrough : yX0_comeThrough.cls ≠ "java/lang/invoke/MethodHandle" ∧ yX0_comeThrough.cls ≠ "java/lang/invoke/VarHandle" ∧ (parseMethodDescriptor yX0_comeThrough.desc).map (fun d => d.parameters.length) = some 2 := hy_X0_comeThrough.2
theorem hy_X0_oneMoreInside : yX0_oneMoreInside.cls = RX0 ∧ yX0_oneMoreInside.cls ≠ "java/lang/invoke/MethodHandle" ∧ yX0_oneMoreInside.cls ≠ "java/lang/invoke/VarHandle" ∧ (parseMethodDescriptor yX0_oneMoreInside.desc).map (fun d => d.parameters.length) = some 0 := by decide +kernel
theorem hyS_X0_oneMoreInside : yX0_oneMoreInside.cls ≠ "java/lang/invoke/MethodHandle" ∧ yX0_oneMoreInside.cls ≠ "java/lang/invoke/VarHandle" ∧ (parseMethodDescriptor yX0_oneMoreInside.desc).map (fun d => d.parameters.length) = some 0 := hy_X0_oneMoreInside.2
theorem hy_X0_oneLessInside : yX0_oneLessInside.cls = RX0 ∧ yX0_oneLessInside.cls ≠ "java/lang/invoke/MethodHandle" ∧ yX0_oneLessInside.cls ≠ "java/lang/invoke/VarHandle" ∧ (parseMethodDescriptor yX0_oneLessInside.desc).map (fun d => d.parameters.length) = some 0 := by decide +kernel
theorem hyS_X0_oneLessInside : yX0_oneLessInside.cls ≠ "java/lang/invoke/MethodHandle" ∧ yX0_oneLessInside.cls ≠ "java/lang/invoke/VarHandle" ∧ (parseMethodDescriptor yX0_oneLessInside.desc).map (fun d => d.parameters.length) = some 0 := hy_X0_oneLessInside.2
theorem hy_X0_becomeInside : yX0_becomeInside.cls = RX0 ∧ yX0_becomeInside.cls ≠ "java/lang/invoke/MethodHandle" ∧ yX0_becomeInside.cls ≠ "java/lang/invoke/VarHandle" ∧ (parseMethodDescriptor yX0_becomeInside.desc).map (fun d => d.parameters.length) = some 1 := by decide +kernel
theorem hyS_X0_becomeInside : yX0_becomeInside.cls ≠ "java/lang/invoke/MethodHandle" ∧ yX0_becomeInside.cls ≠ "java/lang/invoke/VarHandle" ∧ (parseMethodDescriptor yX0_becomeInside.desc).map (fun d => d.parameters.length) = some 1 := hy_X0_becomeInside.2
theorem hy_X0_hasRoomFor : yX0_hasRoomFor.cls = RX0 ∧ yX0_hasRoomFor.cls ≠ "java/lang/invoke/MethodHandle" ∧ yX0_hasRoomFor.cls ≠ "java/lang/invoke/VarHandle" ∧ (parseMethodDescriptor yX0_hasRoomFor.desc).map (fun d => d.parameters.length) = some 1 := by decide +kernel
theorem hyS_X0_hasRoomFor : yX0_hasRoomFor.cls ≠ "java/lang/invoke/MethodHandle" ∧ yX0_hasRoomFor.cls ≠ "java/lang/invoke/VarHandle" ∧ (parseMethodDescriptor yX0_hasRoomFor.desc).map (fun d => d.parameters.length) = some 1 := hy_X0_hasRoomFor.2
theorem hy_X0_goBy : yX0_goBy.cls = RX0 ∧ yX0_goBy.cls ≠ "java/lang/invoke/MethodHandle" ∧ yX0_goBy.cls ≠ "java/lang/invoke/VarHandle" ∧ (parseMethodDescriptor yX0_goBy.desc).map (fun d => d.parameters.length) = some 1 := by decide +kernel
theorem hyS_X0_goBy : yX0_goBy.cls ≠ "java/lang/invoke/MethodHandle" ∧ yX0_goBy.cls ≠ "java/lang/invoke/VarHandle" ∧ (parseMethodDescriptor yX0_goBy.desc).map (fun d => d.parameters.length) = some 1 := hy_X0_goBy.2
theorem hy_X0_isUnderWay : yX0_isUnderWay.cls = RX0 ∧ yX0_isUnderWay.cls ≠ "java/lang/invoke/MethodHandle" ∧ yX0_isUnderWay.cls ≠ "java/lang/invoke/VarHandle" ∧ (parseMethodDescriptor yX0_isUnderWay.desc).map (fun d => d.parameters.length) = some 1 := by decide +kernel
theorem hyS_X0_isUnderWay : yX0_isUnderWay.cls ≠ "java/lang/invoke/MethodHandle" ∧ yX0_isUnderWay.cls ≠ "java/lang/invoke/VarHandle" ∧ (parseMethodDescriptor yX0_isUnderWay.desc).map (fun d => d.parameters.length) = some 1 := hy_X0_isUnderWay.2
theorem hy_X0_isSure : yX0_isSure.cls = RX0 ∧ yX0_isSure.cls ≠ "java/lang/invoke/MethodHandle" ∧ yX0_isSure.cls ≠ "java/lang/invoke/VarHandle" ∧ (parseMethodDescriptor yX0_isSure.desc).map (fun d => d.parameters.length) = some 1 := by decide +kernel
theorem hyS_X0_isSure : yX0_isSure.cls ≠ "java/lang/invoke/MethodHandle" ∧ yX0_isSure.cls ≠ "java/lang/invoke/VarHandle" ∧ (parseMethodDescriptor yX0_isSure.desc).map (fun d => d.parameters.length) = some 1 := hy_X0_isSure.2
theorem hy_X0_placeOf : yX0_placeOf.cls = RX0 ∧ yX0_placeOf.cls ≠ "java/lang/invoke/MethodHandle" ∧ yX0_placeOf.cls ≠ "java/lang/invoke/VarHandle" ∧ (parseMethodDescriptor yX0_placeOf.desc).map (fun d => d.parameters.length) = some 1 := by decide +kernel
theorem hyS_X0_placeOf : yX0_placeOf.cls ≠ "java/lang/invoke/MethodHandle" ∧ yX0_placeOf.cls ≠ "java/lang/invoke/VarHandle" ∧ (parseMethodDescriptor yX0_placeOf.desc).map (fun d => d.parameters.length) = some 1 := hy_X0_placeOf.2
theorem hy_X0_ticksUnderWay : yX0_ticksUnderWay.cls = RX0 ∧ yX0_ticksUnderWay.cls ≠ "java/lang/invoke/MethodHandle" ∧ yX0_ticksUnderWay.cls ≠ "java/lang/invoke/VarHandle" ∧ (parseMethodDescriptor yX0_ticksUnderWay.desc).map (fun d => d.parameters.length) = some 1 := by decide +kernel
theorem hyS_X0_ticksUnderWay : yX0_ticksUnderWay.cls ≠ "java/lang/invoke/MethodHandle" ∧ yX0_ticksUnderWay.cls ≠ "java/lang/invoke/VarHandle" ∧ (parseMethodDescriptor yX0_ticksUnderWay.desc).map (fun d => d.parameters.length) = some 1 := hy_X0_ticksUnderWay.2
theorem hy_X0_isBlocked : yX0_isBlocked.cls = RX0 ∧ yX0_isBlocked.cls ≠ "java/lang/invoke/MethodHandle" ∧ yX0_isBlocked.cls ≠ "java/lang/invoke/VarHandle" ∧ (parseMethodDescriptor yX0_isBlocked.desc).map (fun d => d.parameters.length) = some 1 := by decide +kernel
theorem hyS_X0_isBlocked : yX0_isBlocked.cls ≠ "java/lang/invoke/MethodHandle" ∧ yX0_isBlocked.cls ≠ "java/lang/invoke/VarHandle" ∧ (parseMethodDescriptor yX0_isBlocked.desc).map (fun d => d.parameters.length) = some 1 := hy_X0_isBlocked.2
theorem hy_X0_blockedMask : yX0_blockedMask.cls = RX0 ∧ yX0_blockedMask.cls ≠ "java/lang/invoke/MethodHandle" ∧ yX0_blockedMask.cls ≠ "java/lang/invoke/VarHandle" ∧ (parseMethodDescriptor yX0_blockedMask.desc).map (fun d => d.parameters.length) = some 0 := by decide +kernel
theorem hyS_X0_blockedMask : yX0_blockedMask.cls ≠ "java/lang/invoke/MethodHandle" ∧ yX0_blockedMask.cls ≠ "java/lang/invoke/VarHandle" ∧ (parseMethodDescriptor yX0_blockedMask.desc).map (fun d => d.parameters.length) = some 0 := hy_X0_blockedMask.2
theorem hy_X0_underWayMask : yX0_underWayMask.cls = RX0 ∧ yX0_underWayMask.cls ≠ "java/lang/invoke/MethodHandle" ∧ yX0_underWayMask.cls ≠ "java/lang/invoke/VarHandle" ∧ (parseMethodDescriptor yX0_underWayMask.desc).map (fun d => d.parameters.length) = some 0 := by decide +kernel
theorem hyS_X0_underWayMask : yX0_underWayMask.cls ≠ "java/lang/invoke/MethodHandle" ∧ yX0_underWayMask.cls ≠ "java/lang/invoke/VarHandle" ∧ (parseMethodDescriptor yX0_underWayMask.desc).map (fun d => d.parameters.length) = some 0 := hy_X0_underWayMask.2
theorem hy_X0_sumOfGates : yX0_sumOfGates.cls = RX0 ∧ yX0_sumOfGates.cls ≠ "java/lang/invoke/MethodHandle" ∧ yX0_sumOfGates.cls ≠ "java/lang/invoke/VarHandle" ∧ (parseMethodDescriptor yX0_sumOfGates.desc).map (fun d => d.parameters.length) = some 1 := by decide +kernel
theorem hyS_X0_sumOfGates : yX0_sumOfGates.cls ≠ "java/lang/invoke/MethodHandle" ∧ yX0_sumOfGates.cls ≠ "java/lang/invoke/VarHandle" ∧ (parseMethodDescriptor yX0_sumOfGates.desc).map (fun d => d.parameters.length) = some 1 := hy_X0_sumOfGates.2
theorem hy_X0_passagesThrough : yX0_passagesThrough.cls = RX0 ∧ yX0_passagesThrough.cls ≠ "java/lang/invoke/MethodHandle" ∧ yX0_passagesThrough.cls ≠ "java/lang/invoke/VarHandle" ∧ (parseMethodDescriptor yX0_passagesThrough.desc).map (fun d => d.parameters.length) = some 1 := by decide +kernel
theorem hyS_X0_passagesThrough : yX0_passagesThrough.cls ≠ "java/lang/invoke/MethodHandle" ∧ yX0_passagesThrough.cls ≠ "java/lang/invoke/VarHandle" ∧ (parseMethodDescriptor yX0_passagesThrough.desc).map (fun d => d.parameters.length) = some 1 := hy_X0_passagesThrough.2
theorem hy_X0_tell : yX0_tell.cls = RX0 ∧ yX0_tell.cls ≠ "java/lang/invoke/MethodHandle" ∧ yX0_tell.cls ≠ "java/lang/invoke/VarHandle" ∧ (parseMethodDescriptor yX0_tell.desc).map (fun d => d.parameters.length) = some 2 := by decide +kernel
theorem hyS_X0_tell : yX0_tell.cls ≠ "java/lang/invoke/MethodHandle" ∧ yX0_tell.cls ≠ "java/lang/invoke/VarHandle" ∧ (parseMethodDescriptor yX0_tell.desc).map (fun d => d.parameters.length) = some 2 := hy_X0_tell.2
theorem hy_X1_keep : yX1_keep.cls = RX1 ∧ yX1_keep.cls ≠ "java/lang/invoke/MethodHandle" ∧ yX1_keep.cls ≠ "java/lang/invoke/VarHandle" ∧ (parseMethodDescriptor yX1_keep.desc).map (fun d => d.parameters.length) = some 1 := by decide +kernel
theorem hyS_X1_keep : yX1_keep.cls ≠ "java/lang/invoke/MethodHandle" ∧ yX1_keep.cls ≠ "java/lang/invoke/VarHandle" ∧ (parseMethodDescriptor yX1_keep.desc).map (fun d => d.parameters.length) = some 1 := hy_X1_keep.2
theorem hy_X1_takeBack : yX1_takeBack.cls = RX1 ∧ yX1_takeBack.cls ≠ "java/lang/invoke/MethodHandle" ∧ yX1_takeBack.cls ≠ "java/lang/invoke/VarHandle" ∧ (parseMethodDescriptor yX1_takeBack.desc).map (fun d => d.parameters.length) = some 1 := by decide +kernel
theorem hyS_X1_takeBack : yX1_takeBack.cls ≠ "java/lang/invoke/MethodHandle" ∧ yX1_takeBack.cls ≠ "java/lang/invoke/VarHandle" ∧ (parseMethodDescriptor yX1_takeBack.desc).map (fun d => d.parameters.length) = some 1 := hy_X1_takeBack.2
theorem hy_X2_numberOf : yX2_numberOf.cls = RX2 ∧ yX2_numberOf.cls ≠ "java/lang/invoke/MethodHandle" ∧ yX2_numberOf.cls ≠ "java/lang/invoke/VarHandle" ∧ (parseMethodDescriptor yX2_numberOf.desc).map (fun d => d.parameters.length) = some 1 := by decide +kernel
theorem hyS_X2_numberOf : yX2_numberOf.cls ≠ "java/lang/invoke/MethodHandle" ∧ yX2_numberOf.cls ≠ "java/lang/invoke/VarHandle" ∧ (parseMethodDescriptor yX2_numberOf.desc).map (fun d => d.parameters.length) = some 1 := hy_X2_numberOf.2
theorem hy_X2_hasRoomFor : yX2_hasRoomFor.cls = RX2 ∧ yX2_hasRoomFor.cls ≠ "java/lang/invoke/MethodHandle" ∧ yX2_hasRoomFor.cls ≠ "java/lang/invoke/VarHandle" ∧ (parseMethodDescriptor yX2_hasRoomFor.desc).map (fun d => d.parameters.length) = some 1 := by decide +kernel
theorem hyS_X2_hasRoomFor : yX2_hasRoomFor.cls ≠ "java/lang/invoke/MethodHandle" ∧ yX2_hasRoomFor.cls ≠ "java/lang/invoke/VarHandle" ∧ (parseMethodDescriptor yX2_hasRoomFor.desc).map (fun d => d.parameters.length) = some 1 := hy_X2_hasRoomFor.2
theorem hy_X2_append : yX2_append.cls = RX2 ∧ yX2_append.cls ≠ "java/lang/invoke/MethodHandle" ∧ yX2_append.cls ≠ "java/lang/invoke/VarHandle" ∧ (parseMethodDescriptor yX2_append.desc).map (fun d => d.parameters.length) = some 2 := by decide +kernel
theorem hyS_X2_append : yX2_append.cls ≠ "java/lang/invoke/MethodHandle" ∧ yX2_append.cls ≠ "java/lang/invoke/VarHandle" ∧ (parseMethodDescriptor yX2_append.desc).map (fun d => d.parameters.length) = some 2 := hy_X2_append.2
theorem hy_X2_empty : yX2_empty.cls = RX2 ∧ yX2_empty.cls ≠ "java/lang/invoke/MethodHandle" ∧ yX2_empty.cls ≠ "java/lang/invoke/VarHandle" ∧ (parseMethodDescriptor yX2_empty.desc).map (fun d => d.parameters.length) = some 0 := by decide +kernel
theorem hyS_X2_empty : yX2_empty.cls ≠ "java/lang/invoke/MethodHandle" ∧ yX2_empty.cls ≠ "java/lang/invoke/VarHandle" ∧ (parseMethodDescriptor yX2_empty.desc).map (fun d => d.parameters.length) = some 0 := hy_X2_empty.2
theorem hy_X2_firstFault : yX2_firstFault.cls = RX2 ∧ yX2_firstFault.cls ≠ "java/lang/invoke/MethodHandle" ∧ yX2_firstFault.cls ≠ "java/lang/invoke/VarHandle" ∧ (parseMethodDescriptor yX2_firstFault.desc).map (fun d => d.parameters.length) = some 0 := by decide +kernel
theorem hyS_X2_firstFault : yX2_firstFault.cls ≠ "java/lang/invoke/MethodHandle" ∧ yX2_firstFault.cls ≠ "java/lang/invoke/VarHandle" ∧ (parseMethodDescriptor yX2_firstFault.desc).map (fun d => d.parameters.length) = some 0 := hy_X2_firstFault.2
theorem hy_X2_stateAfter : yX2_stateAfter.cls = RX2 ∧ yX2_stateAfter.cls ≠ "java/lang/invoke/MethodHandle" ∧ yX2_stateAfter.cls ≠ "java/lang/invoke/VarHandle" ∧ (parseMethodDescriptor yX2_stateAfter.desc).map (fun d => d.parameters.length) = some 2 := by decide +kernel
theorem hyS_X2_stateAfter : yX2_stateAfter.cls ≠ "java/lang/invoke/MethodHandle" ∧ yX2_stateAfter.cls ≠ "java/lang/invoke/VarHandle" ∧ (parseMethodDescriptor yX2_stateAfter.desc).map (fun d => d.parameters.length) = some 2 := hy_X2_stateAfter.2
theorem hy_X2_afterEvent : yX2_afterEvent.cls = RX2 ∧ yX2_afterEvent.cls ≠ "java/lang/invoke/MethodHandle" ∧ yX2_afterEvent.cls ≠ "java/lang/invoke/VarHandle" ∧ (parseMethodDescriptor yX2_afterEvent.desc).map (fun d => d.parameters.length) = some 1 := by decide +kernel
theorem hyS_X2_afterEvent : yX2_afterEvent.cls ≠ "java/lang/invoke/MethodHandle" ∧ yX2_afterEvent.cls ≠ "java/lang/invoke/VarHandle" ∧ (parseMethodDescriptor yX2_afterEvent.desc).map (fun d => d.parameters.length) = some 1 := hy_X2_afterEvent.2
theorem hy_X2_isDigit : yX2_isDigit.cls = RX2 ∧ yX2_isDigit.cls ≠ "java/lang/invoke/MethodHandle" ∧ yX2_isDigit.cls ≠ "java/lang/invoke/VarHandle" ∧ (parseMethodDescriptor yX2_isDigit.desc).map (fun d => d.parameters.length) = some 1 := by decide +kernel
theorem hyS_X2_isDigit : yX2_isDigit.cls ≠ "java/lang/invoke/MethodHandle" ∧ yX2_isDigit.cls ≠ "java/lang/invoke/VarHandle" ∧ (parseMethodDescriptor yX2_isDigit.desc).map (fun d => d.parameters.length) = some 1 := hy_X2_isDigit.2
theorem hy_X2_isGateDigit : yX2_isGateDigit.cls = RX2 ∧ yX2_isGateDigit.cls ≠ "java/lang/invoke/MethodHandle" ∧ yX2_isGateDigit.cls ≠ "java/lang/invoke/VarHandle" ∧ (parseMethodDescriptor yX2_isGateDigit.desc).map (fun d => d.parameters.length) = some 1 := by decide +kernel
theorem hyS_X2_isGateDigit : yX2_isGateDigit.cls ≠ "java/lang/invoke/MethodHandle" ∧ yX2_isGateDigit.cls ≠ "java/lang/invoke/VarHandle" ∧ (parseMethodDescriptor yX2_isGateDigit.desc).map (fun d => d.parameters.length) = some 1 := hy_X2_isGateDigit.2
theorem hy_X2_beamOf : yX2_beamOf.cls = RX2 ∧ yX2_beamOf.cls ≠ "java/lang/invoke/MethodHandle" ∧ yX2_beamOf.cls ≠ "java/lang/invoke/VarHandle" ∧ (parseMethodDescriptor yX2_beamOf.desc).map (fun d => d.parameters.length) = some 1 := by decide +kernel
theorem hyS_X2_beamOf : yX2_beamOf.cls ≠ "java/lang/invoke/MethodHandle" ∧ yX2_beamOf.cls ≠ "java/lang/invoke/VarHandle" ∧ (parseMethodDescriptor yX2_beamOf.desc).map (fun d => d.parameters.length) = some 1 := hy_X2_beamOf.2
theorem hy_X2_happenIn : yX2_happenIn.cls = RX2 ∧ yX2_happenIn.cls ≠ "java/lang/invoke/MethodHandle" ∧ yX2_happenIn.cls ≠ "java/lang/invoke/VarHandle" ∧ (parseMethodDescriptor yX2_happenIn.desc).map (fun d => d.parameters.length) = some 1 := by decide +kernel
theorem hyS_X2_happenIn : yX2_happenIn.cls ≠ "java/lang/invoke/MethodHandle" ∧ yX2_happenIn.cls ≠ "java/lang/invoke/VarHandle" ∧ (parseMethodDescriptor yX2_happenIn.desc).map (fun d => d.parameters.length) = some 1 := hy_X2_happenIn.2
theorem hy_X2_changeBeams : yX2_changeBeams.cls = RX2 ∧ yX2_changeBeams.cls ≠ "java/lang/invoke/MethodHandle" ∧ yX2_changeBeams.cls ≠ "java/lang/invoke/VarHandle" ∧ (parseMethodDescriptor yX2_changeBeams.desc).map (fun d => d.parameters.length) = some 3 := by decide +kernel
theorem hyS_X2_changeBeams : yX2_changeBeams.cls ≠ "java/lang/invoke/MethodHandle" ∧ yX2_changeBeams.cls ≠ "java/lang/invoke/VarHandle" ∧ (parseMethodDescriptor yX2_changeBeams.desc).map (fun d => d.parameters.length) = some 3 := hy_X2_changeBeams.2
theorem hy_X2_numberIn : yX2_numberIn.cls = RX2 ∧ yX2_numberIn.cls ≠ "java/lang/invoke/MethodHandle" ∧ yX2_numberIn.cls ≠ "java/lang/invoke/VarHandle" ∧ (parseMethodDescriptor yX2_numberIn.desc).map (fun d => d.parameters.length) = some 2 := by decide +kernel
theorem hyS_X2_numberIn : yX2_numberIn.cls ≠ "java/lang/invoke/MethodHandle" ∧ yX2_numberIn.cls ≠ "java/lang/invoke/VarHandle" ∧ (parseMethodDescriptor yX2_numberIn.desc).map (fun d => d.parameters.length) = some 2 := hy_X2_numberIn.2
theorem hy_X2_letGoBy : yX2_letGoBy.cls = RX2 ∧ yX2_letGoBy.cls ≠ "java/lang/invoke/MethodHandle" ∧ yX2_letGoBy.cls ≠ "java/lang/invoke/VarHandle" ∧ (parseMethodDescriptor yX2_letGoBy.desc).map (fun d => d.parameters.length) = some 2 := by decide +kernel
theorem hyS_X2_letGoBy : yX2_letGoBy.cls ≠ "java/lang/invoke/MethodHandle" ∧ yX2_letGoBy.cls ≠ "java/lang/invoke/VarHandle" ∧ (parseMethodDescriptor yX2_letGoBy.desc).map (fun d => d.parameters.length) = some 2 := hy_X2_letGoBy.2
theorem hy_X3_set : yX3_set.cls = RX3 ∧ yX3_set.cls ≠ "java/lang/invoke/MethodHandle" ∧ yX3_set.cls ≠ "java/lang/invoke/VarHandle" ∧ (parseMethodDescriptor yX3_set.desc).map (fun d => d.parameters.length) = some 2 := by decide +kernel
theorem hyS_X3_set : yX3_set.cls ≠ "java/lang/invoke/MethodHandle" ∧ yX3_set.cls ≠ "java/lang/invoke/VarHandle" ∧ (parseMethodDescriptor yX3_set.desc).map (fun d => d.parameters.length) = some 2 := hy_X3_set.2
theorem hy_X3_event : yX3_event.cls = RX3 ∧ yX3_event.cls ≠ "java/lang/invoke/MethodHandle" ∧ yX3_event.cls ≠ "java/lang/invoke/VarHandle" ∧ (parseMethodDescriptor yX3_event.desc).map (fun d => d.parameters.length) = some 2 := by decide +kernel
theorem hyS_X3_event : yX3_event.cls ≠ "java/lang/invoke/MethodHandle" ∧ yX3_event.cls ≠ "java/lang/invoke/VarHandle" ∧ (parseMethodDescriptor yX3_event.desc).map (fun d => d.parameters.length) = some 2 := hy_X3_event.2
theorem hy_X3_pass : yX3_pass.cls = RX3 ∧ yX3_pass.cls ≠ "java/lang/invoke/MethodHandle" ∧ yX3_pass.cls ≠ "java/lang/invoke/VarHandle" ∧ (parseMethodDescriptor yX3_pass.desc).map (fun d => d.parameters.length) = some 1 := by decide +kernel
theorem hyS_X3_pass : yX3_pass.cls ≠ "java/lang/invoke/MethodHandle" ∧ yX3_pass.cls ≠ "java/lang/invoke/VarHandle" ∧ (parseMethodDescriptor yX3_pass.desc).map (fun d => d.parameters.length) = some 1 := hy_X3_pass.2
theorem hy_X3_read : yX3_read.cls = RX3 ∧ yX3_read.cls ≠ "java/lang/invoke/MethodHandle" ∧ yX3_read.cls ≠ "java/lang/invoke/VarHandle" ∧ (parseMethodDescriptor yX3_read.desc).map (fun d => d.parameters.length) = some 0 := by decide +kernel
theorem hyS_X3_read : yX3_read.cls ≠ "java/lang/invoke/MethodHandle" ∧ yX3_read.cls ≠ "java/lang/invoke/VarHandle" ∧ (parseMethodDescriptor yX3_read.desc).map (fun d => d.parameters.length) = some 0 := hy_X3_read.2
theorem hy_X3_correct : yX3_correct.cls = RX3 ∧ yX3_correct.cls ≠ "java/lang/invoke/MethodHandle" ∧ yX3_correct.cls ≠ "java/lang/invoke/VarHandle" ∧ (parseMethodDescriptor yX3_correct.desc).map (fun d => d.parameters.length) = some 1 := by decide +kernel
theorem hyS_X3_correct : yX3_correct.cls ≠ "java/lang/invoke/MethodHandle" ∧ yX3_correct.cls ≠ "java/lang/invoke/VarHandle" ∧ (parseMethodDescriptor yX3_correct.desc).map (fun d => d.parameters.length) = some 1 := hy_X3_correct.2
theorem hy_X3_clear : yX3_clear.cls = RX3 ∧ yX3_clear.cls ≠ "java/lang/invoke/MethodHandle" ∧ yX3_clear.cls ≠ "java/lang/invoke/VarHandle" ∧ (parseMethodDescriptor yX3_clear.desc).map (fun d => d.parameters.length) = some 1 := by decide +kernel
theorem hyS_X3_clear : yX3_clear.cls ≠ "java/lang/invoke/MethodHandle" ∧ yX3_clear.cls ≠ "java/lang/invoke/VarHandle" ∧ (parseMethodDescriptor yX3_clear.desc).map (fun d => d.parameters.length) = some 1 := hy_X3_clear.2
theorem hy_X3_gate : yX3_gate.cls = RX3 ∧ yX3_gate.cls ≠ "java/lang/invoke/MethodHandle" ∧ yX3_gate.cls ≠ "java/lang/invoke/VarHandle" ∧ (parseMethodDescriptor yX3_gate.desc).map (fun d => d.parameters.length) = some 2 := by decide +kernel
theorem hyS_X3_gate : yX3_gate.cls ≠ "java/lang/invoke/MethodHandle" ∧ yX3_gate.cls ≠ "java/lang/invoke/VarHandle" ∧ (parseMethodDescriptor yX3_gate.desc).map (fun d => d.parameters.length) = some 2 := hy_X3_gate.2
theorem hy_X3_count : yX3_count.cls = RX3 ∧ yX3_count.cls ≠ "java/lang/invoke/MethodHandle" ∧ yX3_count.cls ≠ "java/lang/invoke/VarHandle" ∧ (parseMethodDescriptor yX3_count.desc).map (fun d => d.parameters.length) = some 1 := by decide +kernel
theorem hyS_X3_count : yX3_count.cls ≠ "java/lang/invoke/MethodHandle" ∧ yX3_count.cls ≠ "java/lang/invoke/VarHandle" ∧ (parseMethodDescriptor yX3_count.desc).map (fun d => d.parameters.length) = some 1 := hy_X3_count.2
theorem hy_X3_mean : yX3_mean.cls = RX3 ∧ yX3_mean.cls ≠ "java/lang/invoke/MethodHandle" ∧ yX3_mean.cls ≠ "java/lang/invoke/VarHandle" ∧ (parseMethodDescriptor yX3_mean.desc).map (fun d => d.parameters.length) = some 1 := by decide +kernel
theorem hyS_X3_mean : yX3_mean.cls ≠ "java/lang/invoke/MethodHandle" ∧ yX3_mean.cls ≠ "java/lang/invoke/VarHandle" ∧ (parseMethodDescriptor yX3_mean.desc).map (fun d => d.parameters.length) = some 1 := hy_X3_mean.2
theorem hy_X3_busiest : yX3_busiest.cls = RX3 ∧ yX3_busiest.cls ≠ "java/lang/invoke/MethodHandle" ∧ yX3_busiest.cls ≠ "java/lang/invoke/VarHandle" ∧ (parseMethodDescriptor yX3_busiest.desc).map (fun d => d.parameters.length) = some 0 := by decide +kernel
theorem hyS_X3_busiest : yX3_busiest.cls ≠ "java/lang/invoke/MethodHandle" ∧ yX3_busiest.cls ≠ "java/lang/invoke/VarHandle" ∧ (parseMethodDescriptor yX3_busiest.desc).map (fun d => d.parameters.length) = some 0 := hy_X3_busiest.2
theorem hy_X3_ifRead : yX3_ifRead.cls = RX3 ∧ yX3_ifRead.cls ≠ "java/lang/invoke/MethodHandle" ∧ yX3_ifRead.cls ≠ "java/lang/invoke/VarHandle" ∧ (parseMethodDescriptor yX3_ifRead.desc).map (fun d => d.parameters.length) = some 1 := by decide +kernel
theorem hyS_X3_ifRead : yX3_ifRead.cls ≠ "java/lang/invoke/MethodHandle" ∧ yX3_ifRead.cls ≠ "java/lang/invoke/VarHandle" ∧ (parseMethodDescriptor yX3_ifRead.desc).map (fun d => d.parameters.length) = some 1 := hy_X3_ifRead.2
theorem hy_X3_eventsTo : yX3_eventsTo.cls = RX3 ∧ yX3_eventsTo.cls ≠ "java/lang/invoke/MethodHandle" ∧ yX3_eventsTo.cls ≠ "java/lang/invoke/VarHandle" ∧ (parseMethodDescriptor yX3_eventsTo.desc).map (fun d => d.parameters.length) = some 2 := by decide +kernel
theorem hyS_X3_eventsTo : yX3_eventsTo.cls ≠ "java/lang/invoke/MethodHandle" ∧ yX3_eventsTo.cls ≠ "java/lang/invoke/VarHandle" ∧ (parseMethodDescriptor yX3_eventsTo.desc).map (fun d => d.parameters.length) = some 2 := hy_X3_eventsTo.2
theorem hy_X3_untilBlocked : yX3_untilBlocked.cls = RX3 ∧ yX3_untilBlocked.cls ≠ "java/lang/invoke/MethodHandle" ∧ yX3_untilBlocked.cls ≠ "java/lang/invoke/VarHandle" ∧ (parseMethodDescriptor yX3_untilBlocked.desc).map (fun d => d.parameters.length) = some 0 := by decide +kernel
theorem hyS_X3_untilBlocked : yX3_untilBlocked.cls ≠ "java/lang/invoke/MethodHandle" ∧ yX3_untilBlocked.cls ≠ "java/lang/invoke/VarHandle" ∧ (parseMethodDescriptor yX3_untilBlocked.desc).map (fun d => d.parameters.length) = some 0 := hy_X3_untilBlocked.2
theorem hy_X3_put : yX3_put.cls = RX3 ∧ yX3_put.cls ≠ "java/lang/invoke/MethodHandle" ∧ yX3_put.cls ≠ "java/lang/invoke/VarHandle" ∧ (parseMethodDescriptor yX3_put.desc).map (fun d => d.parameters.length) = some 1 := by decide +kernel
theorem hyS_X3_put : yX3_put.cls ≠ "java/lang/invoke/MethodHandle" ∧ yX3_put.cls ≠ "java/lang/invoke/VarHandle" ∧ (parseMethodDescriptor yX3_put.desc).map (fun d => d.parameters.length) = some 1 := hy_X3_put.2
theorem hy_X3_wipe : yX3_wipe.cls = RX3 ∧ yX3_wipe.cls ≠ "java/lang/invoke/MethodHandle" ∧ yX3_wipe.cls ≠ "java/lang/invoke/VarHandle" ∧ (parseMethodDescriptor yX3_wipe.desc).map (fun d => d.parameters.length) = some 0 := by decide +kernel
theorem hyS_X3_wipe : yX3_wipe.cls ≠ "java/lang/invoke/MethodHandle" ∧ yX3_wipe.cls ≠ "java/lang/invoke/VarHandle" ∧ (parseMethodDescriptor yX3_wipe.desc).map (fun d => d.parameters.length) = some 0 := hy_X3_wipe.2
theorem hy_X3_fault : yX3_fault.cls = RX3 ∧ yX3_fault.cls ≠ "java/lang/invoke/MethodHandle" ∧ yX3_fault.cls ≠ "java/lang/invoke/VarHandle" ∧ (parseMethodDescriptor yX3_fault.desc).map (fun d => d.parameters.length) = some 0 := by decide +kernel
theorem hyS_X3_fault : yX3_fault.cls ≠ "java/lang/invoke/MethodHandle" ∧ yX3_fault.cls ≠ "java/lang/invoke/VarHandle" ∧ (parseMethodDescriptor yX3_fault.desc).map (fun d => d.parameters.length) = some 0 := hy_X3_fault.2
theorem hy_X3_undo : yX3_undo.cls = RX3 ∧ yX3_undo.cls ≠ "java/lang/invoke/MethodHandle" ∧ yX3_undo.cls ≠ "java/lang/invoke/VarHandle" ∧ (parseMethodDescriptor yX3_undo.desc).map (fun d => d.parameters.length) = some 0 := by decide +kernel
theorem hyS_X3_undo : yX3_undo.cls ≠ "java/lang/invoke/MethodHandle" ∧ yX3_undo.cls ≠ "java/lang/invoke/VarHandle" ∧ (parseMethodDescriptor yX3_undo.desc).map (fun d => d.parameters.length) = some 0 := hy_X3_undo.2
theorem hy_X3_save : yX3_save.cls = RX3 ∧ yX3_save.cls ≠ "java/lang/invoke/MethodHandle" ∧ yX3_save.cls ≠ "java/lang/invoke/VarHandle" ∧ (parseMethodDescriptor yX3_save.desc).map (fun d => d.parameters.length) = some 1 := by decide +kernel
theorem hyS_X3_save : yX3_save.cls ≠ "java/lang/invoke/MethodHandle" ∧ yX3_save.cls ≠ "java/lang/invoke/VarHandle" ∧ (parseMethodDescriptor yX3_save.desc).map (fun d => d.parameters.length) = some 1 := hy_X3_save.2
theorem hy_X3_restore : yX3_restore.cls = RX3 ∧ yX3_restore.cls ≠ "java/lang/invoke/MethodHandle" ∧ yX3_restore.cls ≠ "java/lang/invoke/VarHandle" ∧ (parseMethodDescriptor yX3_restore.desc).map (fun d => d.parameters.length) = some 1 := by decide +kernel
theorem hyS_X3_restore : yX3_restore.cls ≠ "java/lang/invoke/MethodHandle" ∧ yX3_restore.cls ≠ "java/lang/invoke/VarHandle" ∧ (parseMethodDescriptor yX3_restore.desc).map (fun d => d.parameters.length) = some 1 := hy_X3_restore.2
theorem hy_X3_isNoGate : yX3_isNoGate.cls = RX3 ∧ yX3_isNoGate.cls ≠ "java/lang/invoke/MethodHandle" ∧ yX3_isNoGate.cls ≠ "java/lang/invoke/VarHandle" ∧ (parseMethodDescriptor yX3_isNoGate.desc).map (fun d => d.parameters.length) = some 1 := by decide +kernel
theorem hyS_X3_isNoGate : yX3_isNoGate.cls ≠ "java/lang/invoke/MethodHandle" ∧ yX3_isNoGate.cls ≠ "java/lang/invoke/VarHandle" ∧ (parseMethodDescriptor yX3_isNoGate.desc).map (fun d => d.parameters.length) = some 1 := hy_X3_isNoGate.2
theorem hy_X3_isNoSlot : yX3_isNoSlot.cls = RX3 ∧ yX3_isNoSlot.cls ≠ "java/lang/invoke/MethodHandle" ∧ yX3_isNoSlot.cls ≠ "java/lang/invoke/VarHandle" ∧ (parseMethodDescriptor yX3_isNoSlot.desc).map (fun d => d.parameters.length) = some 1 := by decide +kernel
theorem hyS_X3_isNoSlot : yX3_isNoSlot.cls ≠ "java/lang/invoke/MethodHandle" ∧ yX3_isNoSlot.cls ≠ "java/lang/invoke/VarHandle" ∧ (parseMethodDescriptor yX3_isNoSlot.desc).map (fun d => d.parameters.length) = some 1 := hy_X3_isNoSlot.2
theorem hy_X3_copyRow : yX3_copyRow.cls = RX3 ∧ yX3_copyRow.cls ≠ "java/lang/invoke/MethodHandle" ∧ yX3_copyRow.cls ≠ "java/lang/invoke/VarHandle" ∧ (parseMethodDescriptor yX3_copyRow.desc).map (fun d => d.parameters.length) = some 2 := by decide +kernel
theorem hyS_X3_copyRow : yX3_copyRow.cls ≠ "java/lang/invoke/MethodHandle" ∧ yX3_copyRow.cls ≠ "java/lang/invoke/VarHandle" ∧ (parseMethodDescriptor yX3_copyRow.desc).map (fun d => d.parameters.length) = some 2 := hy_X3_copyRow.2
theorem hy_X4_in : yX4_in.cls = RX4 ∧ yX4_in.cls ≠ "java/lang/invoke/MethodHandle" ∧ yX4_in.cls ≠ "java/lang/invoke/VarHandle" ∧ (parseMethodDescriptor yX4_in.desc).map (fun d => d.parameters.length) = some 3 := by decide +kernel
theorem hyS_X4_in : yX4_in.cls ≠ "java/lang/invoke/MethodHandle" ∧ yX4_in.cls ≠ "java/lang/invoke/VarHandle" ∧ (parseMethodDescriptor yX4_in.desc).map (fun d => d.parameters.length) = some 3 := hy_X4_in.2
theorem hy_X4_changes : yX4_changes.cls = RX4 ∧ yX4_changes.cls ≠ "java/lang/invoke/MethodHandle" ∧ yX4_changes.cls ≠ "java/lang/invoke/VarHandle" ∧ (parseMethodDescriptor yX4_changes.desc).map (fun d => d.parameters.length) = some 0 := by decide +kernel
theorem hyS_X4_changes : yX4_changes.cls ≠ "java/lang/invoke/MethodHandle" ∧ yX4_changes.cls ≠ "java/lang/invoke/VarHandle" ∧ (parseMethodDescriptor yX4_changes.desc).map (fun d => d.parameters.length) = some 0 := hy_X4_changes.2
theorem hy_X4_keeps : yX4_keeps.cls = RX4 ∧ yX4_keeps.cls ≠ "java/lang/invoke/MethodHandle" ∧ yX4_keeps.cls ≠ "java/lang/invoke/VarHandle" ∧ (parseMethodDescriptor yX4_keeps.desc).map (fun d => d.parameters.length) = some 0 := by decide +kernel
theorem hyS_X4_keeps : yX4_keeps.cls ≠ "java/lang/invoke/MethodHandle" ∧ yX4_keeps.cls ≠ "java/lang/invoke/VarHandle" ∧ (parseMethodDescriptor yX4_keeps.desc).map (fun d => d.parameters.length) = some 0 := hy_X4_keeps.2
theorem hy_X4_comesBack : yX4_comesBack.cls = RX4 ∧ yX4_comesBack.cls ≠ "java/lang/invoke/MethodHandle" ∧ yX4_comesBack.cls ≠ "java/lang/invoke/VarHandle" ∧ (parseMethodDescriptor yX4_comesBack.desc).map (fun d => d.parameters.length) = some 0 := by decide +kernel
theorem hyS_X4_comesBack : yX4_comesBack.cls ≠ "java/lang/invoke/MethodHandle" ∧ yX4_comesBack.cls ≠ "java/lang/invoke/VarHandle" ∧ (parseMethodDescriptor yX4_comesBack.desc).map (fun d => d.parameters.length) = some 0 := hy_X4_comesBack.2
theorem hy_X4_isGate : yX4_isGate.cls = RX4 ∧ yX4_isGate.cls ≠ "java/lang/invoke/MethodHandle" ∧ yX4_isGate.cls ≠ "java/lang/invoke/VarHandle" ∧ (parseMethodDescriptor yX4_isGate.desc).map (fun d => d.parameters.length) = some 1 := by decide +kernel
theorem hyS_X4_isGate : yX4_isGate.cls ≠ "java/lang/invoke/MethodHandle" ∧ yX4_isGate.cls ≠ "java/lang/invoke/VarHandle" ∧ (parseMethodDescriptor yX4_isGate.desc).map (fun d => d.parameters.length) = some 1 := hy_X4_isGate.2
theorem hy_X4_get : yX4_get.cls = RX4 ∧ yX4_get.cls ≠ "java/lang/invoke/MethodHandle" ∧ yX4_get.cls ≠ "java/lang/invoke/VarHandle" ∧ (parseMethodDescriptor yX4_get.desc).map (fun d => d.parameters.length) = some 2 := by decide +kernel
theorem hyS_X4_get : yX4_get.cls ≠ "java/lang/invoke/MethodHandle" ∧ yX4_get.cls ≠ "java/lang/invoke/VarHandle" ∧ (parseMethodDescriptor yX4_get.desc).map (fun d => d.parameters.length) = some 2 := hy_X4_get.2
theorem hy_X4_lays : yX4_lays.cls = RX4 ∧ yX4_lays.cls ≠ "java/lang/invoke/MethodHandle" ∧ yX4_lays.cls ≠ "java/lang/invoke/VarHandle" ∧ (parseMethodDescriptor yX4_lays.desc).map (fun d => d.parameters.length) = some 3 := by decide +kernel
theorem hyS_X4_lays : yX4_lays.cls ≠ "java/lang/invoke/MethodHandle" ∧ yX4_lays.cls ≠ "java/lang/invoke/VarHandle" ∧ (parseMethodDescriptor yX4_lays.desc).map (fun d => d.parameters.length) = some 3 := hy_X4_lays.2
theorem hy_X4_more : yX4_more.cls = RX4 ∧ yX4_more.cls ≠ "java/lang/invoke/MethodHandle" ∧ yX4_more.cls ≠ "java/lang/invoke/VarHandle" ∧ (parseMethodDescriptor yX4_more.desc).map (fun d => d.parameters.length) = some 3 := by decide +kernel
theorem hyS_X4_more : yX4_more.cls ≠ "java/lang/invoke/MethodHandle" ∧ yX4_more.cls ≠ "java/lang/invoke/VarHandle" ∧ (parseMethodDescriptor yX4_more.desc).map (fun d => d.parameters.length) = some 3 := hy_X4_more.2
theorem hy_X4_isUnderWay : yX4_isUnderWay.cls = RX4 ∧ yX4_isUnderWay.cls ≠ "java/lang/invoke/MethodHandle" ∧ yX4_isUnderWay.cls ≠ "java/lang/invoke/VarHandle" ∧ (parseMethodDescriptor yX4_isUnderWay.desc).map (fun d => d.parameters.length) = some 1 := by decide +kernel
theorem hyS_X4_isUnderWay : yX4_isUnderWay.cls ≠ "java/lang/invoke/MethodHandle" ∧ yX4_isUnderWay.cls ≠ "java/lang/invoke/VarHandle" ∧ (parseMethodDescriptor yX4_isUnderWay.desc).map (fun d => d.parameters.length) = some 1 := hy_X4_isUnderWay.2
theorem hy_X4_isBlocked : yX4_isBlocked.cls = RX4 ∧ yX4_isBlocked.cls ≠ "java/lang/invoke/MethodHandle" ∧ yX4_isBlocked.cls ≠ "java/lang/invoke/VarHandle" ∧ (parseMethodDescriptor yX4_isBlocked.desc).map (fun d => d.parameters.length) = some 1 := by decide +kernel
theorem hyS_X4_isBlocked : yX4_isBlocked.cls ≠ "java/lang/invoke/MethodHandle" ∧ yX4_isBlocked.cls ≠ "java/lang/invoke/VarHandle" ∧ (parseMethodDescriptor yX4_isBlocked.desc).map (fun d => d.parameters.length) = some 1 := hy_X4_isBlocked.2
theorem hy_X4_lookBehind : yX4_lookBehind.cls = RX4 ∧ yX4_lookBehind.cls ≠ "java/lang/invoke/MethodHandle" ∧ yX4_lookBehind.cls ≠ "java/lang/invoke/VarHandle" ∧ (parseMethodDescriptor yX4_lookBehind.desc).map (fun d => d.parameters.length) = some 2 := by decide +kernel
theorem hyS_X4_lookBehind : yX4_lookBehind.cls ≠ "java/lang/invoke/MethodHandle" ∧ yX4_lookBehind.cls ≠ "java/lang/invoke/VarHandle" ∧ (parseMethodDescriptor yX4_lookBehind.desc).map (fun d => d.parameters.length) = some 2 := hy_X4_lookBehind.2
theorem hy_X4_comesIn : yX4_comesIn.cls = RX4 ∧ yX4_comesIn.cls ≠ "java/lang/invoke/MethodHandle" ∧ yX4_comesIn.cls ≠ "java/lang/invoke/VarHandle" ∧ (parseMethodDescriptor yX4_comesIn.desc).map (fun d => d.parameters.length) = some 0 := by decide +kernel
theorem hyS_X4_comesIn : yX4_comesIn.cls ≠ "java/lang/invoke/MethodHandle" ∧ yX4_comesIn.cls ≠ "java/lang/invoke/VarHandle" ∧ (parseMethodDescriptor yX4_comesIn.desc).map (fun d => d.parameters.length) = some 0 := hy_X4_comesIn.2
theorem hy_X4_goesOut : yX4_goesOut.cls = RX4 ∧ yX4_goesOut.cls ≠ "java/lang/invoke/MethodHandle" ∧ yX4_goesOut.cls ≠ "java/lang/invoke/VarHandle" ∧ (parseMethodDescriptor yX4_goesOut.desc).map (fun d => d.parameters.length) = some 0 := by decide +kernel
theorem hyS_X4_goesOut : yX4_goesOut.cls ≠ "java/lang/invoke/MethodHandle" ∧ yX4_goesOut.cls ≠ "java/lang/invoke/VarHandle" ∧ (parseMethodDescriptor yX4_goesOut.desc).map (fun d => d.parameters.length) = some 0 := hy_X4_goesOut.2
theorem hy_X4_counts : yX4_counts.cls = RX4 ∧ yX4_counts.cls ≠ "java/lang/invoke/MethodHandle" ∧ yX4_counts.cls ≠ "java/lang/invoke/VarHandle" ∧ (parseMethodDescriptor yX4_counts.desc).map (fun d => d.parameters.length) = some 2 := by decide +kernel
theorem hyS_X4_counts : yX4_counts.cls ≠ "java/lang/invoke/MethodHandle" ∧ yX4_counts.cls ≠ "java/lang/invoke/VarHandle" ∧ (parseMethodDescriptor yX4_counts.desc).map (fun d => d.parameters.length) = some 2 := hy_X4_counts.2
theorem hy_X4_ends : yX4_ends.cls = RX4 ∧ yX4_ends.cls ≠ "java/lang/invoke/MethodHandle" ∧ yX4_ends.cls ≠ "java/lang/invoke/VarHandle" ∧ (parseMethodDescriptor yX4_ends.desc).map (fun d => d.parameters.length) = some 2 := by decide +kernel
theorem hyS_X4_ends : yX4_ends.cls ≠ "java/lang/invoke/MethodHandle" ∧ yX4_ends.cls ≠ "java/lang/invoke/VarHandle" ∧ (parseMethodDescriptor yX4_ends.desc).map (fun d => d.parameters.length) = some 2 := hy_X4_ends.2
theorem hy_X4_happens : yX4_happens.cls = RX4 ∧ yX4_happens.cls ≠ "java/lang/invoke/MethodHandle" ∧ yX4_happens.cls ≠ "java/lang/invoke/VarHandle" ∧ (parseMethodDescriptor yX4_happens.desc).map (fun d => d.parameters.length) = some 2 := by decide +kernel
theorem hyS_X4_happens : yX4_happens.cls ≠ "java/lang/invoke/MethodHandle" ∧ yX4_happens.cls ≠ "java/lang/invoke/VarHandle" ∧ (parseMethodDescriptor yX4_happens.desc).map (fun d => d.parameters.length) = some 2 := hy_X4_happens.2
theorem hy_X4_blocked : yX4_blocked.cls = RX4 ∧ yX4_blocked.cls ≠ "java/lang/invoke/MethodHandle" ∧ yX4_blocked.cls ≠ "java/lang/invoke/VarHandle" ∧ (parseMethodDescriptor yX4_blocked.desc).map (fun d => d.parameters.length) = some 0 := by decide +kernel
theorem hyS_X4_blocked : yX4_blocked.cls ≠ "java/lang/invoke/MethodHandle" ∧ yX4_blocked.cls ≠ "java/lang/invoke/VarHandle" ∧ (parseMethodDescriptor yX4_blocked.desc).map (fun d => d.parameters.length) = some 0 := hy_X4_blocked.2
theorem hy_X4_allOf : yX4_allOf.cls = RX4 ∧ yX4_allOf.cls ≠ "java/lang/invoke/MethodHandle" ∧ yX4_allOf.cls ≠ "java/lang/invoke/VarHandle" ∧ (parseMethodDescriptor yX4_allOf.desc).map (fun d => d.parameters.length) = some 1 := by decide +kernel
theorem hyS_X4_allOf : yX4_allOf.cls ≠ "java/lang/invoke/MethodHandle" ∧ yX4_allOf.cls ≠ "java/lang/invoke/VarHandle" ∧ (parseMethodDescriptor yX4_allOf.desc).map (fun d => d.parameters.length) = some 1 := hy_X4_allOf.2
theorem hy_X4_isSetting : yX4_isSetting.cls = RX4 ∧ yX4_isSetting.cls ≠ "java/lang/invoke/MethodHandle" ∧ yX4_isSetting.cls ≠ "java/lang/invoke/VarHandle" ∧ (parseMethodDescriptor yX4_isSetting.desc).map (fun d => d.parameters.length) = some 2 := by decide +kernel
theorem hyS_X4_isSetting : yX4_isSetting.cls ≠ "java/lang/invoke/MethodHandle" ∧ yX4_isSetting.cls ≠ "java/lang/invoke/VarHandle" ∧ (parseMethodDescriptor yX4_isSetting.desc).map (fun d => d.parameters.length) = some 2 := hy_X4_isSetting.2
theorem hy_X4_set : yX4_set.cls = RX4 ∧ yX4_set.cls ≠ "java/lang/invoke/MethodHandle" ∧ yX4_set.cls ≠ "java/lang/invoke/VarHandle" ∧ (parseMethodDescriptor yX4_set.desc).map (fun d => d.parameters.length) = some 2 := by decide +kernel
theorem hyS_X4_set : yX4_set.cls ≠ "java/lang/invoke/MethodHandle" ∧ yX4_set.cls ≠ "java/lang/invoke/VarHandle" ∧ (parseMethodDescriptor yX4_set.desc).map (fun d => d.parameters.length) = some 2 := hy_X4_set.2
theorem hy_X4_event : yX4_event.cls = RX4 ∧ yX4_event.cls ≠ "java/lang/invoke/MethodHandle" ∧ yX4_event.cls ≠ "java/lang/invoke/VarHandle" ∧ (parseMethodDescriptor yX4_event.desc).map (fun d => d.parameters.length) = some 2 := by decide +kernel
theorem hyS_X4_event : yX4_event.cls ≠ "java/lang/invoke/MethodHandle" ∧ yX4_event.cls ≠ "java/lang/invoke/VarHandle" ∧ (parseMethodDescriptor yX4_event.desc).map (fun d => d.parameters.length) = some 2 := hy_X4_event.2
theorem hy_X4_bits : yX4_bits.cls = RX4 ∧ yX4_bits.cls ≠ "java/lang/invoke/MethodHandle" ∧ yX4_bits.cls ≠ "java/lang/invoke/VarHandle" ∧ (parseMethodDescriptor yX4_bits.desc).map (fun d => d.parameters.length) = some 1 := by decide +kernel
theorem hyS_X4_bits : yX4_bits.cls ≠ "java/lang/invoke/MethodHandle" ∧ yX4_bits.cls ≠ "java/lang/invoke/VarHandle" ∧ (parseMethodDescriptor yX4_bits.desc).map (fun d => d.parameters.length) = some 1 := hy_X4_bits.2
theorem hy_X4_pass : yX4_pass.cls = RX4 ∧ yX4_pass.cls ≠ "java/lang/invoke/MethodHandle" ∧ yX4_pass.cls ≠ "java/lang/invoke/VarHandle" ∧ (parseMethodDescriptor yX4_pass.desc).map (fun d => d.parameters.length) = some 1 := by decide +kernel
theorem hyS_X4_pass : yX4_pass.cls ≠ "java/lang/invoke/MethodHandle" ∧ yX4_pass.cls ≠ "java/lang/invoke/VarHandle" ∧ (parseMethodDescriptor yX4_pass.desc).map (fun d => d.parameters.length) = some 1 := hy_X4_pass.2
theorem hy_X4_correct : yX4_correct.cls = RX4 ∧ yX4_correct.cls ≠ "java/lang/invoke/MethodHandle" ∧ yX4_correct.cls ≠ "java/lang/invoke/VarHandle" ∧ (parseMethodDescriptor yX4_correct.desc).map (fun d => d.parameters.length) = some 1 := by decide +kernel
theorem hyS_X4_correct : yX4_correct.cls ≠ "java/lang/invoke/MethodHandle" ∧ yX4_correct.cls ≠ "java/lang/invoke/VarHandle" ∧ (parseMethodDescriptor yX4_correct.desc).map (fun d => d.parameters.length) = some 1 := hy_X4_correct.2
theorem hy_X4_clear : yX4_clear.cls = RX4 ∧ yX4_clear.cls ≠ "java/lang/invoke/MethodHandle" ∧ yX4_clear.cls ≠ "java/lang/invoke/VarHandle" ∧ (parseMethodDescriptor yX4_clear.desc).map (fun d => d.parameters.length) = some 1 := by decide +kernel
theorem hyS_X4_clear : yX4_clear.cls ≠ "java/lang/invoke/MethodHandle" ∧ yX4_clear.cls ≠ "java/lang/invoke/VarHandle" ∧ (parseMethodDescriptor yX4_clear.desc).map (fun d => d.parameters.length) = some 1 := hy_X4_clear.2
theorem hy_X4_placeOf : yX4_placeOf.cls = RX4 ∧ yX4_placeOf.cls ≠ "java/lang/invoke/MethodHandle" ∧ yX4_placeOf.cls ≠ "java/lang/invoke/VarHandle" ∧ (parseMethodDescriptor yX4_placeOf.desc).map (fun d => d.parameters.length) = some 1 := by decide +kernel
theorem hyS_X4_placeOf : yX4_placeOf.cls ≠ "java/lang/invoke/MethodHandle" ∧ yX4_placeOf.cls ≠ "java/lang/invoke/VarHandle" ∧ (parseMethodDescriptor yX4_placeOf.desc).map (fun d => d.parameters.length) = some 1 := hy_X4_placeOf.2
theorem hy_X4_gate : yX4_gate.cls = RX4 ∧ yX4_gate.cls ≠ "java/lang/invoke/MethodHandle" ∧ yX4_gate.cls ≠ "java/lang/invoke/VarHandle" ∧ (parseMethodDescriptor yX4_gate.desc).map (fun d => d.parameters.length) = some 2 := by decide +kernel
theorem hyS_X4_gate : yX4_gate.cls ≠ "java/lang/invoke/MethodHandle" ∧ yX4_gate.cls ≠ "java/lang/invoke/VarHandle" ∧ (parseMethodDescriptor yX4_gate.desc).map (fun d => d.parameters.length) = some 2 := hy_X4_gate.2
theorem hy_X4_underWay : yX4_underWay.cls = RX4 ∧ yX4_underWay.cls ≠ "java/lang/invoke/MethodHandle" ∧ yX4_underWay.cls ≠ "java/lang/invoke/VarHandle" ∧ (parseMethodDescriptor yX4_underWay.desc).map (fun d => d.parameters.length) = some 0 := by decide +kernel
theorem hyS_X4_underWay : yX4_underWay.cls ≠ "java/lang/invoke/MethodHandle" ∧ yX4_underWay.cls ≠ "java/lang/invoke/VarHandle" ∧ (parseMethodDescriptor yX4_underWay.desc).map (fun d => d.parameters.length) = some 0 := hy_X4_underWay.2
theorem hy_X4_count : yX4_count.cls = RX4 ∧ yX4_count.cls ≠ "java/lang/invoke/MethodHandle" ∧ yX4_count.cls ≠ "java/lang/invoke/VarHandle" ∧ (parseMethodDescriptor yX4_count.desc).map (fun d => d.parameters.length) = some 1 := by decide +kernel
theorem hyS_X4_count : yX4_count.cls ≠ "java/lang/invoke/MethodHandle" ∧ yX4_count.cls ≠ "java/lang/invoke/VarHandle" ∧ (parseMethodDescriptor yX4_count.desc).map (fun d => d.parameters.length) = some 1 := hy_X4_count.2
theorem hy_X4_through : yX4_through.cls = RX4 ∧ yX4_through.cls ≠ "java/lang/invoke/MethodHandle" ∧ yX4_through.cls ≠ "java/lang/invoke/VarHandle" ∧ (parseMethodDescriptor yX4_through.desc).map (fun d => d.parameters.length) = some 1 := by decide +kernel
theorem hyS_X4_through : yX4_through.cls ≠ "java/lang/invoke/MethodHandle" ∧ yX4_through.cls ≠ "java/lang/invoke/VarHandle" ∧ (parseMethodDescriptor yX4_through.desc).map (fun d => d.parameters.length) = some 1 := hy_X4_through.2
theorem hy_X4_mean : yX4_mean.cls = RX4 ∧ yX4_mean.cls ≠ "java/lang/invoke/MethodHandle" ∧ yX4_mean.cls ≠ "java/lang/invoke/VarHandle" ∧ (parseMethodDescriptor yX4_mean.desc).map (fun d => d.parameters.length) = some 1 := by decide +kernel
theorem hyS_X4_mean : yX4_mean.cls ≠ "java/lang/invoke/MethodHandle" ∧ yX4_mean.cls ≠ "java/lang/invoke/VarHandle" ∧ (parseMethodDescriptor yX4_mean.desc).map (fun d => d.parameters.length) = some 1 := hy_X4_mean.2
theorem hy_X4_busiest : yX4_busiest.cls = RX4 ∧ yX4_busiest.cls ≠ "java/lang/invoke/MethodHandle" ∧ yX4_busiest.cls ≠ "java/lang/invoke/VarHandle" ∧ (parseMethodDescriptor yX4_busiest.desc).map (fun d => d.parameters.length) = some 0 := by decide +kernel
theorem hyS_X4_busiest : yX4_busiest.cls ≠ "java/lang/invoke/MethodHandle" ∧ yX4_busiest.cls ≠ "java/lang/invoke/VarHandle" ∧ (parseMethodDescriptor yX4_busiest.desc).map (fun d => d.parameters.length) = some 0 := hy_X4_busiest.2
theorem hy_X4_ifRead : yX4_ifRead.cls = RX4 ∧ yX4_ifRead.cls ≠ "java/lang/invoke/MethodHandle" ∧ yX4_ifRead.cls ≠ "java/lang/invoke/VarHandle" ∧ (parseMethodDescriptor yX4_ifRead.desc).map (fun d => d.parameters.length) = some 1 := by decide +kernel
theorem hyS_X4_ifRead : yX4_ifRead.cls ≠ "java/lang/invoke/MethodHandle" ∧ yX4_ifRead.cls ≠ "java/lang/invoke/VarHandle" ∧ (parseMethodDescriptor yX4_ifRead.desc).map (fun d => d.parameters.length) = some 1 := hy_X4_ifRead.2
theorem hy_X4_eventsTo : yX4_eventsTo.cls = RX4 ∧ yX4_eventsTo.cls ≠ "java/lang/invoke/MethodHandle" ∧ yX4_eventsTo.cls ≠ "java/lang/invoke/VarHandle" ∧ (parseMethodDescriptor yX4_eventsTo.desc).map (fun d => d.parameters.length) = some 2 := by decide +kernel
theorem hyS_X4_eventsTo : yX4_eventsTo.cls ≠ "java/lang/invoke/MethodHandle" ∧ yX4_eventsTo.cls ≠ "java/lang/invoke/VarHandle" ∧ (parseMethodDescriptor yX4_eventsTo.desc).map (fun d => d.parameters.length) = some 2 := hy_X4_eventsTo.2
theorem hy_X4_untilBlocked : yX4_untilBlocked.cls = RX4 ∧ yX4_untilBlocked.cls ≠ "java/lang/invoke/MethodHandle" ∧ yX4_untilBlocked.cls ≠ "java/lang/invoke/VarHandle" ∧ (parseMethodDescriptor yX4_untilBlocked.desc).map (fun d => d.parameters.length) = some 0 := by decide +kernel
theorem hyS_X4_untilBlocked : yX4_untilBlocked.cls ≠ "java/lang/invoke/MethodHandle" ∧ yX4_untilBlocked.cls ≠ "java/lang/invoke/VarHandle" ∧ (parseMethodDescriptor yX4_untilBlocked.desc).map (fun d => d.parameters.length) = some 0 := hy_X4_untilBlocked.2
theorem hy_X4_charactersOf : yX4_charactersOf.cls = RX4 ∧ yX4_charactersOf.cls ≠ "java/lang/invoke/MethodHandle" ∧ yX4_charactersOf.cls ≠ "java/lang/invoke/VarHandle" ∧ (parseMethodDescriptor yX4_charactersOf.desc).map (fun d => d.parameters.length) = some 1 := by decide +kernel
theorem hyS_X4_charactersOf : yX4_charactersOf.cls ≠ "java/lang/invoke/MethodHandle" ∧ yX4_charactersOf.cls ≠ "java/lang/invoke/VarHandle" ∧ (parseMethodDescriptor yX4_charactersOf.desc).map (fun d => d.parameters.length) = some 1 := hy_X4_charactersOf.2
theorem hy_X4_put : yX4_put.cls = RX4 ∧ yX4_put.cls ≠ "java/lang/invoke/MethodHandle" ∧ yX4_put.cls ≠ "java/lang/invoke/VarHandle" ∧ (parseMethodDescriptor yX4_put.desc).map (fun d => d.parameters.length) = some 1 := by decide +kernel
theorem hyS_X4_put : yX4_put.cls ≠ "java/lang/invoke/MethodHandle" ∧ yX4_put.cls ≠ "java/lang/invoke/VarHandle" ∧ (parseMethodDescriptor yX4_put.desc).map (fun d => d.parameters.length) = some 1 := hy_X4_put.2
theorem hy_X4_wipe : yX4_wipe.cls = RX4 ∧ yX4_wipe.cls ≠ "java/lang/invoke/MethodHandle" ∧ yX4_wipe.cls ≠ "java/lang/invoke/VarHandle" ∧ (parseMethodDescriptor yX4_wipe.desc).map (fun d => d.parameters.length) = some 0 := by decide +kernel
theorem hyS_X4_wipe : yX4_wipe.cls ≠ "java/lang/invoke/MethodHandle" ∧ yX4_wipe.cls ≠ "java/lang/invoke/VarHandle" ∧ (parseMethodDescriptor yX4_wipe.desc).map (fun d => d.parameters.length) = some 0 := hy_X4_wipe.2
theorem hy_X4_isHere : yX4_isHere.cls = RX4 ∧ yX4_isHere.cls ≠ "java/lang/invoke/MethodHandle" ∧ yX4_isHere.cls ≠ "java/lang/invoke/VarHandle" ∧ (parseMethodDescriptor yX4_isHere.desc).map (fun d => d.parameters.length) = some 2 := by decide +kernel
theorem hyS_X4_isHere : yX4_isHere.cls ≠ "java/lang/invoke/MethodHandle" ∧ yX4_isHere.cls ≠ "java/lang/invoke/VarHandle" ∧ (parseMethodDescriptor yX4_isHere.desc).map (fun d => d.parameters.length) = some 2 := hy_X4_isHere.2
theorem hy_X4_takesOne : yX4_takesOne.cls = RX4 ∧ yX4_takesOne.cls ≠ "java/lang/invoke/MethodHandle" ∧ yX4_takesOne.cls ≠ "java/lang/invoke/VarHandle" ∧ (parseMethodDescriptor yX4_takesOne.desc).map (fun d => d.parameters.length) = some 1 := by decide +kernel
theorem hyS_X4_takesOne : yX4_takesOne.cls ≠ "java/lang/invoke/MethodHandle" ∧ yX4_takesOne.cls ≠ "java/lang/invoke/VarHandle" ∧ (parseMethodDescriptor yX4_takesOne.desc).map (fun d => d.parameters.length) = some 1 := hy_X4_takesOne.2
theorem hy_X4_beam : yX4_beam.cls = RX4 ∧ yX4_beam.cls ≠ "java/lang/invoke/MethodHandle" ∧ yX4_beam.cls ≠ "java/lang/invoke/VarHandle" ∧ (parseMethodDescriptor yX4_beam.desc).map (fun d => d.parameters.length) = some 0 := by decide +kernel
theorem hyS_X4_beam : yX4_beam.cls ≠ "java/lang/invoke/MethodHandle" ∧ yX4_beam.cls ≠ "java/lang/invoke/VarHandle" ∧ (parseMethodDescriptor yX4_beam.desc).map (fun d => d.parameters.length) = some 0 := hy_X4_beam.2
theorem hy_X4_readsTicks : yX4_readsTicks.cls = RX4 ∧ yX4_readsTicks.cls ≠ "java/lang/invoke/MethodHandle" ∧ yX4_readsTicks.cls ≠ "java/lang/invoke/VarHandle" ∧ (parseMethodDescriptor yX4_readsTicks.desc).map (fun d => d.parameters.length) = some 0 := by decide +kernel
theorem hyS_X4_readsTicks : yX4_readsTicks.cls ≠ "java/lang/invoke/MethodHandle" ∧ yX4_readsTicks.cls ≠ "java/lang/invoke/VarHandle" ∧ (parseMethodDescriptor yX4_readsTicks.desc).map (fun d => d.parameters.length) = some 0 := hy_X4_readsTicks.2
theorem hy_X4_readsEvent : yX4_readsEvent.cls = RX4 ∧ yX4_readsEvent.cls ≠ "java/lang/invoke/MethodHandle" ∧ yX4_readsEvent.cls ≠ "java/lang/invoke/VarHandle" ∧ (parseMethodDescriptor yX4_readsEvent.desc).map (fun d => d.parameters.length) = some 0 := by decide +kernel
theorem hyS_X4_readsEvent : yX4_readsEvent.cls ≠ "java/lang/invoke/MethodHandle" ∧ yX4_readsEvent.cls ≠ "java/lang/invoke/VarHandle" ∧ (parseMethodDescriptor yX4_readsEvent.desc).map (fun d => d.parameters.length) = some 0 := hy_X4_readsEvent.2
theorem hy_X4_fault : yX4_fault.cls = RX4 ∧ yX4_fault.cls ≠ "java/lang/invoke/MethodHandle" ∧ yX4_fault.cls ≠ "java/lang/invoke/VarHandle" ∧ (parseMethodDescriptor yX4_fault.desc).map (fun d => d.parameters.length) = some 0 := by decide +kernel
theorem hyS_X4_fault : yX4_fault.cls ≠ "java/lang/invoke/MethodHandle" ∧ yX4_fault.cls ≠ "java/lang/invoke/VarHandle" ∧ (parseMethodDescriptor yX4_fault.desc).map (fun d => d.parameters.length) = some 0 := hy_X4_fault.2
theorem hy_X4_reads : yX4_reads.cls = RX4 ∧ yX4_reads.cls ≠ "java/lang/invoke/MethodHandle" ∧ yX4_reads.cls ≠ "java/lang/invoke/VarHandle" ∧ (parseMethodDescriptor yX4_reads.desc).map (fun d => d.parameters.length) = some 0 := by decide +kernel
theorem hyS_X4_reads : yX4_reads.cls ≠ "java/lang/invoke/MethodHandle" ∧ yX4_reads.cls ≠ "java/lang/invoke/VarHandle" ∧ (parseMethodDescriptor yX4_reads.desc).map (fun d => d.parameters.length) = some 0 := hy_X4_reads.2
theorem hy_X4_read : yX4_read.cls = RX4 ∧ yX4_read.cls ≠ "java/lang/invoke/MethodHandle" ∧ yX4_read.cls ≠ "java/lang/invoke/VarHandle" ∧ (parseMethodDescriptor yX4_read.desc).map (fun d => d.parameters.length) = some 0 := by decide +kernel
theorem hyS_X4_read : yX4_read.cls ≠ "java/lang/invoke/MethodHandle" ∧ yX4_read.cls ≠ "java/lang/invoke/VarHandle" ∧ (parseMethodDescriptor yX4_read.desc).map (fun d => d.parameters.length) = some 0 := hy_X4_read.2
theorem hy_X4_undo : yX4_undo.cls = RX4 ∧ yX4_undo.cls ≠ "java/lang/invoke/MethodHandle" ∧ yX4_undo.cls ≠ "java/lang/invoke/VarHandle" ∧ (parseMethodDescriptor yX4_undo.desc).map (fun d => d.parameters.length) = some 0 := by decide +kernel
theorem hyS_X4_undo : yX4_undo.cls ≠ "java/lang/invoke/MethodHandle" ∧ yX4_undo.cls ≠ "java/lang/invoke/VarHandle" ∧ (parseMethodDescriptor yX4_undo.desc).map (fun d => d.parameters.length) = some 0 := hy_X4_undo.2
theorem hy_X4_isSlot : yX4_isSlot.cls = RX4 ∧ yX4_isSlot.cls ≠ "java/lang/invoke/MethodHandle" ∧ yX4_isSlot.cls ≠ "java/lang/invoke/VarHandle" ∧ (parseMethodDescriptor yX4_isSlot.desc).map (fun d => d.parameters.length) = some 1 := by decide +kernel
theorem hyS_X4_isSlot : yX4_isSlot.cls ≠ "java/lang/invoke/MethodHandle" ∧ yX4_isSlot.cls ≠ "java/lang/invoke/VarHandle" ∧ (parseMethodDescriptor yX4_isSlot.desc).map (fun d => d.parameters.length) = some 1 := hy_X4_isSlot.2
theorem hy_X4_save : yX4_save.cls = RX4 ∧ yX4_save.cls ≠ "java/lang/invoke/MethodHandle" ∧ yX4_save.cls ≠ "java/lang/invoke/VarHandle" ∧ (parseMethodDescriptor yX4_save.desc).map (fun d => d.parameters.length) = some 1 := by decide +kernel
theorem hyS_X4_save : yX4_save.cls ≠ "java/lang/invoke/MethodHandle" ∧ yX4_save.cls ≠ "java/lang/invoke/VarHandle" ∧ (parseMethodDescriptor yX4_save.desc).map (fun d => d.parameters.length) = some 1 := hy_X4_save.2
theorem hy_X4_restore : yX4_restore.cls = RX4 ∧ yX4_restore.cls ≠ "java/lang/invoke/MethodHandle" ∧ yX4_restore.cls ≠ "java/lang/invoke/VarHandle" ∧ (parseMethodDescriptor yX4_restore.desc).map (fun d => d.parameters.length) = some 1 := by decide +kernel
theorem hyS_X4_restore : yX4_restore.cls ≠ "java/lang/invoke/MethodHandle" ∧ yX4_restore.cls ≠ "java/lang/invoke/VarHandle" ∧ (parseMethodDescriptor yX4_restore.desc).map (fun d => d.parameters.length) = some 1 := hy_X4_restore.2
theorem hy_J6_bitCount_0f7a4 : yJ6_bitCount_0f7a4.cls = RJ6 ∧ yJ6_bitCount_0f7a4.cls ≠ "java/lang/invoke/MethodHandle" ∧ yJ6_bitCount_0f7a4.cls ≠ "java/lang/invoke/VarHandle" ∧ (parseMethodDescriptor yJ6_bitCount_0f7a4.desc).map (fun d => d.parameters.length) = some 1 := by decide +kernel
theorem hyS_J6_bitCount_0f7a4 : yJ6_bitCount_0f7a4.cls ≠ "java/lang/invoke/MethodHandle" ∧ yJ6_bitCount_0f7a4.cls ≠ "java/lang/invoke/VarHandle" ∧ (parseMethodDescriptor yJ6_bitCount_0f7a4.desc).map (fun d => d.parameters.length) = some 1 := hy_J6_bitCount_0f7a4.2
theorem hy_J9_abs_0f7a4 : yJ9_abs_0f7a4.cls = RJ9 ∧ yJ9_abs_0f7a4.cls ≠ "java/lang/invoke/MethodHandle" ∧ yJ9_abs_0f7a4.cls ≠ "java/lang/invoke/VarHandle" ∧ (parseMethodDescriptor yJ9_abs_0f7a4.desc).map (fun d => d.parameters.length) = some 1 := by decide +kernel
theorem hyS_J9_abs_0f7a4 : yJ9_abs_0f7a4.cls ≠ "java/lang/invoke/MethodHandle" ∧ yJ9_abs_0f7a4.cls ≠ "java/lang/invoke/VarHandle" ∧ (parseMethodDescriptor yJ9_abs_0f7a4.desc).map (fun d => d.parameters.length) = some 1 := hy_J9_abs_0f7a4.2
theorem hy_J9_min_7cf53 : yJ9_min_7cf53.cls = RJ9 ∧ yJ9_min_7cf53.cls ≠ "java/lang/invoke/MethodHandle" ∧ yJ9_min_7cf53.cls ≠ "java/lang/invoke/VarHandle" ∧ (parseMethodDescriptor yJ9_min_7cf53.desc).map (fun d => d.parameters.length) = some 2 := by decide +kernel
theorem hyS_J9_min_7cf53 : yJ9_min_7cf53.cls ≠ "java/lang/invoke/MethodHandle" ∧ yJ9_min_7cf53.cls ≠ "java/lang/invoke/VarHandle" ∧ (parseMethodDescriptor yJ9_min_7cf53.desc).map (fun d => d.parameters.length) = some 2 := hy_J9_min_7cf53.2
set_option maxHeartbeats 4000000 in
set_option maxRecDepth 100000 in
/-- Hall.partOf -/
theorem c_X0_partOf (l : Launch) (D : va_G) (cI cC cZ cG : ClassId) (g : Nat) : Met l yX0_partOf wsX0_partOf ({ frames := 0, cells := 0, slots := 0, locals := 0 } : Room) (b_R D (b_T cI cC cZ cG) [] [.int (nI g)]) (vp_Si (fun r => r = nI (8 + g * 13))) 0 0 (fun _ => False) := by
  refine b_enterR (cc := cX0_partOf) (maxL := 1) (ret := (some .int)) (by decide) rfl (Nat.le_of_ble_eq_true rfl) ?_
  intro p e s m below meth c ls hx hb hr hml hown hts hlocks hP hK hl Q hQ
  have hown : s.vm.findClass RX0 = some m.cls := hown
  have hl : lv_has ls 1 [(0, .int (nI g))] := hl
  refine lv_bipush (pc := 0) (v := 8) hx hb dX0_partOf_0 (by decide) ?_
  refine lv_iload_n (pc := 2) hx hb dX0_partOf_2 rfl (lv_at hl 0 rfl) ?_
  refine lv_bipush (pc := 3) (v := 13) hx hb dX0_partOf_3 (by decide) ?_
  refine lv_imul (pc := 5) hx hb dX0_partOf_5 ?_
  refine b_re (pk_mul g 13) ?_
  refine lv_iadd (pc := 6) hx hb dX0_partOf_6 ?_
  refine b_re (nI_add 8 (g * 13)) ?_
  subst hQ
  exact b_retR hx hb hr hlocks (by first | rfl | (simp only [])) dX0_partOf_7
theorem hw_X0_becomeInside_0 : (.fieldLink RX0 11 "BeamTurnstiles$Hall" "row" "[I" : Cond) ∈ wsX0_becomeInside := by decide +kernel
theorem hi_X0_becomeInside_X0 : ∀ w ∈ wsX00, w ∈ wsX0_becomeInside := by decide +kernel
set_option maxHeartbeats 4000000 in
set_option maxRecDepth 100000 in
/-- Hall.becomeInside -/
theorem c_X0_becomeInside (l : Launch) (D : va_G) (cI cC cZ cG : ClassId) (tb lo hi : Nat) (sz : Nat) (h : Nat) (r : Nat) (f : Nat → Int32) (x : Int32) : Met l yX0_becomeInside wsX0_becomeInside ({ frames := 0, cells := 0, slots := 0, locals := 0 } : Room) (b_W D (b_T cI cC cZ cG) (b_X tb lo hi) [(h, .inr (0, [.ref r])), (r, .inl (cI, 86, .inl f))] sz [.ref h, .int x]) (b_Qv D [(h, .inr (0, [.ref r])), (r, .inl (cI, 86, .inl (h_become f x)))] (va_A [(h, .inr (0, [.ref r])), (r, .inl (cI, 86, .inl f))] sz)) 0 0 (va_A [(h, .inr (0, [.ref r])), (r, .inl (cI, 86, .inl f))] sz) := by
  refine b_enterW (Qc := fun A => b_Qv D [(h, .inr (0, [.ref r])), (r, .inl (cI, 86, .inl (h_become f x)))] A) (cc := cX0_becomeInside) (maxL := 2) (ret := none) (by decide) rfl (Nat.le_of_ble_eq_true rfl) ?_
  intro p e s m below meth c ls A hx hb hr hml hown hts hlocks hname hP hK hD hA hS hX hl Q hQ
  have hown : s.vm.findClass RX0 = some m.cls := hown
  have hl : lv_has ls 2 [(0, .ref h), (1, .int x)] := hl
  refine lv_aload_n (pc := 0) hx hb dX0_becomeInside_0 rfl (lv_at hl 0 rfl) ?_
  refine va_get (pc := 1) (D := D) (ci := 0) (v := .ref r) (C := RX0) (T := TX0) (N := 1) hx hb hts hi_X0_becomeInside_X0 hown hK hP 0 rfl rfl 0 (by decide) (hts _ hw_X0_becomeInside_0) (fun _ h9 => h9) rfl dX0_becomeInside_1 ?_
  refine lv_iconst (pc := 4) (v := 4) hx hb dX0_becomeInside_4 (by decide) ?_
  refine lv_iload_n (pc := 5) hx hb dX0_becomeInside_5 rfl (lv_at hl 1 rfl) ?_
  refine b_iast (pc := 6) hx hb hK hP hD hS 1 0 rfl rfl 4 rfl (by omega) (by decide) dX0_becomeInside_6 (fun H locs hP hD hS => ?_)
  obtain ⟨f_1, ef_1⟩ : ∃ z : Nat → Int32, z = upd f 4 x := ⟨_, rfl⟩
  have hP : va_P D vwCl [(h, .inr (0, [.ref r])), (r, .inl (cI, 86, .inl f_1))] H := by rw [ef_1]; exact hP
  have hD : va_D A [(h, .inr (0, [.ref r])), (r, .inl (cI, 86, .inl f_1))] := by rw [ef_1]; exact hD
  refine lv_iload_n (pc := 7) hx hb dX0_becomeInside_7 rfl (lv_at hl 1 rfl) ?_
  refine lv_aload_n (pc := 8) hx hb dX0_becomeInside_8 rfl (lv_at hl 0 rfl) ?_
  refine va_get (pc := 9) (D := D) (ci := 0) (v := .ref r) (C := RX0) (T := TX0) (N := 1) hx hb hts hi_X0_becomeInside_X0 hown hK hP 0 rfl rfl 0 (by decide) (hts _ hw_X0_becomeInside_0) (fun _ h9 => h9) rfl dX0_becomeInside_9 ?_
  refine lv_iconst (pc := 12) (v := 5) hx hb dX0_becomeInside_12 (by decide) ?_
  refine b_iald (pc := 13) hx hb hK hP 1 0 rfl rfl 5 rfl (by omega) (by decide) dX0_becomeInside_13 ?_
  refine lv_icmp_le (pc := 14) (tgt := 24) hx hb dX0_becomeInside_14 (by decide) (fun c_2 => ?_) (fun c_2 => ?_)
  · skip
    have c_2 : x ≤ (f_1 5) := c_2
    subst ef_1
    subst hQ
    exact b_retV hx hb hr hlocks hS (by first | exact hP | (refine (b_eqP ?_ hP); simp only [h_become, if_pos c_2])) dX0_becomeInside_24
  · skip
    have c_2 : ¬ (x ≤ (f_1 5)) := c_2
    refine lv_aload_n (pc := 17) hx hb dX0_becomeInside_17 rfl (lv_at hl 0 rfl) ?_
    refine va_get (pc := 18) (D := D) (ci := 0) (v := .ref r) (C := RX0) (T := TX0) (N := 1) hx hb hts hi_X0_becomeInside_X0 hown hK hP 0 rfl rfl 0 (by decide) (hts _ hw_X0_becomeInside_0) (fun _ h9 => h9) rfl dX0_becomeInside_18 ?_
    refine lv_iconst (pc := 21) (v := 5) hx hb dX0_becomeInside_21 (by decide) ?_
    refine lv_iload_n (pc := 22) hx hb dX0_becomeInside_22 rfl (lv_at hl 1 rfl) ?_
    refine b_iast (pc := 23) hx hb hK hP hD hS 1 0 rfl rfl 5 rfl (by omega) (by decide) dX0_becomeInside_23 (fun H locs hP hD hS => ?_)
    obtain ⟨f_3, ef_3⟩ : ∃ z : Nat → Int32, z = upd f_1 5 x := ⟨_, rfl⟩
    have hP : va_P D vwCl [(h, .inr (0, [.ref r])), (r, .inl (cI, 86, .inl f_3))] H := by rw [ef_3]; exact hP
    have hD : va_D A [(h, .inr (0, [.ref r])), (r, .inl (cI, 86, .inl f_3))] := by rw [ef_3]; exact hD
    subst ef_1
    subst ef_3
    subst hQ
    exact b_retV hx hb hr hlocks hS (by first | exact hP | (refine (b_eqP ?_ hP); simp only [h_become, if_neg c_2])) dX0_becomeInside_24
theorem hw_X0_oneMoreInside_0 : (.fieldLink RX0 11 "BeamTurnstiles$Hall" "row" "[I" : Cond) ∈ wsX0_oneMoreInside := by decide +kernel
theorem hi_X0_oneMoreInside_X0 : ∀ w ∈ wsX00, w ∈ wsX0_oneMoreInside := by decide +kernel
set_option maxHeartbeats 4000000 in
set_option maxRecDepth 100000 in
/-- Hall.oneMoreInside -/
theorem c_X0_oneMoreInside (l : Launch) (D : va_G) (cI cC cZ cG : ClassId) (tb lo hi : Nat) (sz : Nat) (h : Nat) (r : Nat) (f : Nat → Int32) : Met l yX0_oneMoreInside wsX0_oneMoreInside ({ frames := 1, cells := 0, slots := 0, locals := 21 } : Room) (b_W D (b_T cI cC cZ cG) (b_X tb lo hi) [(h, .inr (0, [.ref r])), (r, .inl (cI, 86, .inl f))] sz [.ref h]) (b_Qv D [(h, .inr (0, [.ref r])), (r, .inl (cI, 86, .inl (h_more f)))] (va_A [(h, .inr (0, [.ref r])), (r, .inl (cI, 86, .inl f))] sz)) 0 0 (va_A [(h, .inr (0, [.ref r])), (r, .inl (cI, 86, .inl f))] sz) := by
  refine b_enterW (Qc := fun A => b_Qv D [(h, .inr (0, [.ref r])), (r, .inl (cI, 86, .inl (h_more f)))] A) (cc := cX0_oneMoreInside) (maxL := 1) (ret := none) (by decide) rfl (Nat.le_of_ble_eq_true rfl) ?_
  intro p e s m below meth c ls A hx hb hr hml hown hts hlocks hname hP hK hD hA hS hX hl Q hQ
  have hown : s.vm.findClass RX0 = some m.cls := hown
  have hl : lv_has ls 1 [(0, .ref h)] := hl
  refine lv_aload_n (pc := 0) hx hb dX0_oneMoreInside_0 rfl (lv_at hl 0 rfl) ?_
  refine lv_aload_n (pc := 1) hx hb dX0_oneMoreInside_1 rfl (lv_at hl 0 rfl) ?_
  refine va_get (pc := 2) (D := D) (ci := 0) (v := .ref r) (C := RX0) (T := TX0) (N := 1) hx hb hts hi_X0_oneMoreInside_X0 hown hK hP 0 rfl rfl 0 (by decide) (hts _ hw_X0_oneMoreInside_0) (fun _ h9 => h9) rfl dX0_oneMoreInside_2 ?_
  refine lv_iconst (pc := 5) (v := 4) hx hb dX0_oneMoreInside_5 (by decide) ?_
  refine b_iald (pc := 6) hx hb hK hP 1 0 rfl rfl 4 rfl (by omega) (by decide) dX0_oneMoreInside_6 ?_
  refine lv_iconst (pc := 7) (v := 1) hx hb dX0_oneMoreInside_7 (by decide) ?_
  refine lv_iadd (pc := 8) hx hb dX0_oneMoreInside_8 ?_
  refine b_cV (pc := 9) (w1 := [(h, .inr (0, [.ref r])), (r, .inl (cI, 86, .inl (h_become f ((f 4) + 1))))]) (va_runV (As := [.int ((f 4) + 1)]) (rest := []) ⟨hx, hb, hml, hown, hts⟩ (c_X0_becomeInside l D cI cC cZ cG tb lo hi s.heap.size h r f ((f 4) + 1)) (cwV 1 hts gX0_oneMoreInside_X0_becomeInside rfl rfl rfl hy_X0_becomeInside ⟨Nat.le_of_ble_eq_true rfl, Nat.le_of_ble_eq_true rfl⟩) (b_pWV (wc := [(h, .inr (0, [.ref r])), (r, .inl (cI, 86, .inl f))]) hK hP hD (b_Xok_X tb lo hi) [0, 1] rfl (by decide) rfl (b_Xc hX hD hS hA [0, 1] rfl) (ci := 0) (q0 := 0) rfl rfl) rfl rfl hl.1 rfl (lv_room (Nat.le_of_ble_eq_true rfl)) dX0_oneMoreInside_9 ⟨Nat.zero_le _, Nat.zero_le _⟩) hP hD hS hA [0, 1] rfl rfl (fun H locs hP hD hS => ?_)
  have hP : va_P D vwCl [(h, .inr (0, [.ref r])), (r, .inl (cI, 86, .inl (h_become f ((f 4) + 1))))] H := hP
  have hD : va_D A [(h, .inr (0, [.ref r])), (r, .inl (cI, 86, .inl (h_become f ((f 4) + 1))))] := hD
  refine lv_aload_n (pc := 12) hx hb dX0_oneMoreInside_12 rfl (lv_at hl 0 rfl) ?_
  refine va_get (pc := 13) (D := D) (ci := 0) (v := .ref r) (C := RX0) (T := TX0) (N := 1) hx hb hts hi_X0_oneMoreInside_X0 hown hK hP 0 rfl rfl 0 (by decide) (hts _ hw_X0_oneMoreInside_0) (fun _ h9 => h9) rfl dX0_oneMoreInside_13 ?_
  refine lv_iconst (pc := 16) (v := 4) hx hb dX0_oneMoreInside_16 (by decide) ?_
  refine b_iald (pc := 17) hx hb hK hP 1 0 rfl rfl 4 rfl (by omega) (by decide) dX0_oneMoreInside_17 ?_
  refine lv_aload_n (pc := 18) hx hb dX0_oneMoreInside_18 rfl (lv_at hl 0 rfl) ?_
  refine va_get (pc := 19) (D := D) (ci := 0) (v := .ref r) (C := RX0) (T := TX0) (N := 1) hx hb hts hi_X0_oneMoreInside_X0 hown hK hP 0 rfl rfl 0 (by decide) (hts _ hw_X0_oneMoreInside_0) (fun _ h9 => h9) rfl dX0_oneMoreInside_19 ?_
  refine lv_iconst (pc := 22) (v := 2) hx hb dX0_oneMoreInside_22 (by decide) ?_
  refine b_iald (pc := 23) hx hb hK hP 1 0 rfl rfl 2 rfl (by omega) (by decide) dX0_oneMoreInside_23 ?_
  refine lv_icmp_le (pc := 24) (tgt := 38) hx hb dX0_oneMoreInside_24 (by decide) (fun c_1 => ?_) (fun c_1 => ?_)
  · skip
    have c_1 : ((h_become f ((f 4) + 1)) 4) ≤ ((h_become f ((f 4) + 1)) 2) := c_1
    subst hQ
    exact b_retV hx hb hr hlocks hS (by first | exact hP | (refine (b_eqP ?_ hP); simp only [h_more, if_pos c_1])) dX0_oneMoreInside_38
  · skip
    have c_1 : ¬ (((h_become f ((f 4) + 1)) 4) ≤ ((h_become f ((f 4) + 1)) 2)) := c_1
    refine lv_aload_n (pc := 27) hx hb dX0_oneMoreInside_27 rfl (lv_at hl 0 rfl) ?_
    refine va_get (pc := 28) (D := D) (ci := 0) (v := .ref r) (C := RX0) (T := TX0) (N := 1) hx hb hts hi_X0_oneMoreInside_X0 hown hK hP 0 rfl rfl 0 (by decide) (hts _ hw_X0_oneMoreInside_0) (fun _ h9 => h9) rfl dX0_oneMoreInside_28 ?_
    refine lv_bipush (pc := 31) (v := 6) hx hb dX0_oneMoreInside_31 (by decide) ?_
    refine lv_dup2_11 (pc := 33) hx hb dX0_oneMoreInside_33 rfl rfl ?_
    refine b_iald (pc := 34) hx hb hK hP 1 0 rfl rfl 6 rfl (by omega) (by decide) dX0_oneMoreInside_34 ?_
    refine lv_iconst (pc := 35) (v := 1) hx hb dX0_oneMoreInside_35 (by decide) ?_
    refine lv_iadd (pc := 36) hx hb dX0_oneMoreInside_36 ?_
    refine b_iast (pc := 37) hx hb hK hP hD hS 1 0 rfl rfl 6 rfl (by omega) (by decide) dX0_oneMoreInside_37 (fun H locs hP hD hS => ?_)
    obtain ⟨f_2, ef_2⟩ : ∃ z : Nat → Int32, z = upd (h_become f ((f 4) + 1)) 6 (((h_become f ((f 4) + 1)) 6) + 1) := ⟨_, rfl⟩
    have hP : va_P D vwCl [(h, .inr (0, [.ref r])), (r, .inl (cI, 86, .inl f_2))] H := by rw [ef_2]; exact hP
    have hD : va_D A [(h, .inr (0, [.ref r])), (r, .inl (cI, 86, .inl f_2))] := by rw [ef_2]; exact hD
    subst ef_2
    subst hQ
    exact b_retV hx hb hr hlocks hS (by first | exact hP | (refine (b_eqP ?_ hP); simp only [h_more, if_neg c_1])) dX0_oneMoreInside_38
theorem hw_X0_oneLessInside_0 : (.fieldLink RX0 11 "BeamTurnstiles$Hall" "row" "[I" : Cond) ∈ wsX0_oneLessInside := by decide +kernel
theorem hi_X0_oneLessInside_X0 : ∀ w ∈ wsX00, w ∈ wsX0_oneLessInside := by decide +kernel
set_option maxHeartbeats 4000000 in
set_option maxRecDepth 100000 in
/-- Hall.oneLessInside -/
theorem c_X0_oneLessInside (l : Launch) (D : va_G) (cI cC cZ cG : ClassId) (tb lo hi : Nat) (sz : Nat) (h : Nat) (r : Nat) (f : Nat → Int32) : Met l yX0_oneLessInside wsX0_oneLessInside ({ frames := 0, cells := 0, slots := 0, locals := 0 } : Room) (b_W D (b_T cI cC cZ cG) (b_X tb lo hi) [(h, .inr (0, [.ref r])), (r, .inl (cI, 86, .inl f))] sz [.ref h]) (b_Qv D [(h, .inr (0, [.ref r])), (r, .inl (cI, 86, .inl (h_less f)))] (va_A [(h, .inr (0, [.ref r])), (r, .inl (cI, 86, .inl f))] sz)) 0 0 (va_A [(h, .inr (0, [.ref r])), (r, .inl (cI, 86, .inl f))] sz) := by
  refine b_enterW (Qc := fun A => b_Qv D [(h, .inr (0, [.ref r])), (r, .inl (cI, 86, .inl (h_less f)))] A) (cc := cX0_oneLessInside) (maxL := 1) (ret := none) (by decide) rfl (Nat.le_of_ble_eq_true rfl) ?_
  intro p e s m below meth c ls A hx hb hr hml hown hts hlocks hname hP hK hD hA hS hX hl Q hQ
  have hown : s.vm.findClass RX0 = some m.cls := hown
  have hl : lv_has ls 1 [(0, .ref h)] := hl
  refine lv_aload_n (pc := 0) hx hb dX0_oneLessInside_0 rfl (lv_at hl 0 rfl) ?_
  refine va_get (pc := 1) (D := D) (ci := 0) (v := .ref r) (C := RX0) (T := TX0) (N := 1) hx hb hts hi_X0_oneLessInside_X0 hown hK hP 0 rfl rfl 0 (by decide) (hts _ hw_X0_oneLessInside_0) (fun _ h9 => h9) rfl dX0_oneLessInside_1 ?_
  refine lv_iconst (pc := 4) (v := 4) hx hb dX0_oneLessInside_4 (by decide) ?_
  refine b_iald (pc := 5) hx hb hK hP 1 0 rfl rfl 4 rfl (by omega) (by decide) dX0_oneLessInside_5 ?_
  refine lv_if_le (pc := 6) (tgt := 22) hx hb dX0_oneLessInside_6 (by decide) (fun c_1 => ?_) (fun c_1 => ?_)
  · skip
    have c_1 : (f 4) ≤ 0 := c_1
    refine lv_aload_n (pc := 22) hx hb dX0_oneLessInside_22 rfl (lv_at hl 0 rfl) ?_
    refine va_get (pc := 23) (D := D) (ci := 0) (v := .ref r) (C := RX0) (T := TX0) (N := 1) hx hb hts hi_X0_oneLessInside_X0 hown hK hP 0 rfl rfl 0 (by decide) (hts _ hw_X0_oneLessInside_0) (fun _ h9 => h9) rfl dX0_oneLessInside_23 ?_
    refine lv_bipush (pc := 26) (v := 7) hx hb dX0_oneLessInside_26 (by decide) ?_
    refine lv_dup2_11 (pc := 28) hx hb dX0_oneLessInside_28 rfl rfl ?_
    refine b_iald (pc := 29) hx hb hK hP 1 0 rfl rfl 7 rfl (by omega) (by decide) dX0_oneLessInside_29 ?_
    refine lv_iconst (pc := 30) (v := 1) hx hb dX0_oneLessInside_30 (by decide) ?_
    refine lv_iadd (pc := 31) hx hb dX0_oneLessInside_31 ?_
    refine b_iast (pc := 32) hx hb hK hP hD hS 1 0 rfl rfl 7 rfl (by omega) (by decide) dX0_oneLessInside_32 (fun H locs hP hD hS => ?_)
    obtain ⟨f_2, ef_2⟩ : ∃ z : Nat → Int32, z = upd f 7 ((f 7) + 1) := ⟨_, rfl⟩
    have hP : va_P D vwCl [(h, .inr (0, [.ref r])), (r, .inl (cI, 86, .inl f_2))] H := by rw [ef_2]; exact hP
    have hD : va_D A [(h, .inr (0, [.ref r])), (r, .inl (cI, 86, .inl f_2))] := by rw [ef_2]; exact hD
    subst ef_2
    subst hQ
    exact b_retV hx hb hr hlocks hS (by first | exact hP | (refine (b_eqP ?_ hP); simp only [h_less, if_pos c_1])) dX0_oneLessInside_33
  · skip
    have c_1 : ¬ ((f 4) ≤ 0) := c_1
    refine lv_aload_n (pc := 9) hx hb dX0_oneLessInside_9 rfl (lv_at hl 0 rfl) ?_
    refine va_get (pc := 10) (D := D) (ci := 0) (v := .ref r) (C := RX0) (T := TX0) (N := 1) hx hb hts hi_X0_oneLessInside_X0 hown hK hP 0 rfl rfl 0 (by decide) (hts _ hw_X0_oneLessInside_0) (fun _ h9 => h9) rfl dX0_oneLessInside_10 ?_
    refine lv_iconst (pc := 13) (v := 4) hx hb dX0_oneLessInside_13 (by decide) ?_
    refine lv_dup2_11 (pc := 14) hx hb dX0_oneLessInside_14 rfl rfl ?_
    refine b_iald (pc := 15) hx hb hK hP 1 0 rfl rfl 4 rfl (by omega) (by decide) dX0_oneLessInside_15 ?_
    refine lv_iconst (pc := 16) (v := 1) hx hb dX0_oneLessInside_16 (by decide) ?_
    refine lv_isub (pc := 17) hx hb dX0_oneLessInside_17 ?_
    refine b_iast (pc := 18) hx hb hK hP hD hS 1 0 rfl rfl 4 rfl (by omega) (by decide) dX0_oneLessInside_18 (fun H locs hP hD hS => ?_)
    obtain ⟨f_3, ef_3⟩ : ∃ z : Nat → Int32, z = upd f 4 ((f 4) - 1) := ⟨_, rfl⟩
    have hP : va_P D vwCl [(h, .inr (0, [.ref r])), (r, .inl (cI, 86, .inl f_3))] H := by rw [ef_3]; exact hP
    have hD : va_D A [(h, .inr (0, [.ref r])), (r, .inl (cI, 86, .inl f_3))] := by rw [ef_3]; exact hD
    refine lv_goto (pc := 19) (tgt := 33) hx hb dX0_oneLessInside_19 (by decide) ?_
    subst ef_3
    subst hQ
    exact b_retV hx hb hr hlocks hS (by first | exact hP | (refine (b_eqP ?_ hP); simp only [h_less, if_neg c_1])) dX0_oneLessInside_33
theorem hw_X0_comeThrough_0 : (.fieldLink RX0 11 "BeamTurnstiles$Hall" "row" "[I" : Cond) ∈ wsX0_comeThrough := by decide +kernel
theorem hi_X0_comeThrough_X0 : ∀ w ∈ wsX00, w ∈ wsX0_comeThrough := by decide +kernel
set_option maxHeartbeats 4000000 in
set_option maxRecDepth 100000 in
/-- Hall.comeThrough -/
theorem c_X0_comeThrough (l : Launch) (D : va_G) (cI cC cZ cG : ClassId) (tb lo hi : Nat) (sz : Nat) (h : Nat) (r : Nat) (f : Nat → Int32) (P : Nat) (w : Nat) (hp : P + 13 ≤ 86) (hw : w < 13) : Met l yX0_comeThrough wsX0_comeThrough ({ frames := 0, cells := 0, slots := 0, locals := 0 } : Room) (b_W D (b_T cI cC cZ cG) (b_X tb lo hi) [(h, .inr (0, [.ref r])), (r, .inl (cI, 86, .inl f))] sz [.ref h, .int (nI P), .int (nI w)]) (b_Qv D [(h, .inr (0, [.ref r])), (r, .inl (cI, 86, .inl (h_come f P w)))] (va_A [(h, .inr (0, [.ref r])), (r, .inl (cI, 86, .inl f))] sz)) 0 0 (va_A [(h, .inr (0, [.ref r])), (r, .inl (cI, 86, .inl f))] sz) := by
  refine b_enterW (Qc := fun A => b_Qv D [(h, .inr (0, [.ref r])), (r, .inl (cI, 86, .inl (h_come f P w)))] A) (cc := cX0_comeThrough) (maxL := 4) (ret := none) (by decide) rfl (Nat.le_of_ble_eq_true rfl) ?_
  intro p e s m below meth c ls A hx hb hr hml hown hts hlocks hname hP hK hD hA hS hX hl Q hQ
  have hown : s.vm.findClass RX0 = some m.cls := hown
  have hl : lv_has ls 4 [(0, .ref h), (1, .int (nI P)), (2, .int (nI w))] := hl
  refine lv_aload_n (pc := 0) hx hb dX0_comeThrough_0 rfl (lv_at hl 0 rfl) ?_
  refine va_get (pc := 1) (D := D) (ci := 0) (v := .ref r) (C := RX0) (T := TX0) (N := 1) hx hb hts hi_X0_comeThrough_X0 hown hK hP 0 rfl rfl 0 (by decide) (hts _ hw_X0_comeThrough_0) (fun _ h9 => h9) rfl dX0_comeThrough_1 ?_
  refine lv_iload_n (pc := 4) hx hb dX0_comeThrough_4 rfl (lv_at hl 1 rfl) ?_
  refine lv_iconst (pc := 5) (v := 1) hx hb dX0_comeThrough_5 (by decide) ?_
  refine lv_iadd (pc := 6) hx hb dX0_comeThrough_6 ?_
  refine b_re (nI_add P 1) ?_
  refine b_iald (pc := 7) hx hb hK hP 1 0 rfl rfl (P + 1) rfl (by omega) (by decide) dX0_comeThrough_7 ?_
  refine lv_istore_n (pc := 8) (lv' := [(3, .int (f (P + 1))), (0, .ref h), (1, .int (nI P)), (2, .int (nI w))]) hx hb dX0_comeThrough_8 rfl hl (by decide) rfl (fun ls hl => ?_)
  refine lv_aload_n (pc := 9) hx hb dX0_comeThrough_9 rfl (lv_at hl 1 rfl) ?_
  refine va_get (pc := 10) (D := D) (ci := 0) (v := .ref r) (C := RX0) (T := TX0) (N := 1) hx hb hts hi_X0_comeThrough_X0 hown hK hP 0 rfl rfl 0 (by decide) (hts _ hw_X0_comeThrough_0) (fun _ h9 => h9) rfl dX0_comeThrough_10 ?_
  refine lv_iload_n (pc := 13) hx hb dX0_comeThrough_13 rfl (lv_at hl 2 rfl) ?_
  refine lv_iconst (pc := 14) (v := 4) hx hb dX0_comeThrough_14 (by decide) ?_
  refine lv_iadd (pc := 15) hx hb dX0_comeThrough_15 ?_
  refine b_re (nI_add P 4) ?_
  refine b_iald (pc := 16) hx hb hK hP 1 0 rfl rfl (P + 4) rfl (by omega) (by decide) dX0_comeThrough_16 ?_
  refine lv_iload_n (pc := 17) hx hb dX0_comeThrough_17 rfl (lv_at hl 3 rfl) ?_
  refine lv_icmp_ne (pc := 18) (tgt := 54) hx hb dX0_comeThrough_18 (by decide) (fun c_1 => ?_) (fun c_1 => ?_)
  · skip
    have c_1 : ¬ ((f (P + 4)) = (nI w)) := c_1
    refine lv_aload_n (pc := 54) hx hb dX0_comeThrough_54 rfl (lv_at hl 1 rfl) ?_
    refine va_get (pc := 55) (D := D) (ci := 0) (v := .ref r) (C := RX0) (T := TX0) (N := 1) hx hb hts hi_X0_comeThrough_X0 hown hK hP 0 rfl rfl 0 (by decide) (hts _ hw_X0_comeThrough_0) (fun _ h9 => h9) rfl dX0_comeThrough_55 ?_
    refine lv_iload_n (pc := 58) hx hb dX0_comeThrough_58 rfl (lv_at hl 2 rfl) ?_
    refine lv_iload_n (pc := 59) hx hb dX0_comeThrough_59 rfl (lv_at hl 3 rfl) ?_
    refine lv_iadd (pc := 60) hx hb dX0_comeThrough_60 ?_
    refine b_re (nI_add P w) ?_
    refine lv_dup2_11 (pc := 61) hx hb dX0_comeThrough_61 rfl rfl ?_
    refine b_iald (pc := 62) hx hb hK hP 1 0 rfl rfl (P + w) rfl (by omega) (by decide) dX0_comeThrough_62 ?_
    refine lv_iconst (pc := 63) (v := 1) hx hb dX0_comeThrough_63 (by decide) ?_
    refine lv_iadd (pc := 64) hx hb dX0_comeThrough_64 ?_
    refine b_iast (pc := 65) hx hb hK hP hD hS 1 0 rfl rfl (P + w) rfl (by omega) (by decide) dX0_comeThrough_65 (fun H locs hP hD hS => ?_)
    obtain ⟨f_2, ef_2⟩ : ∃ z : Nat → Int32, z = upd f (P + w) ((f (P + w)) + 1) := ⟨_, rfl⟩
    have hP : va_P D vwCl [(h, .inr (0, [.ref r])), (r, .inl (cI, 86, .inl f_2))] H := by rw [ef_2]; exact hP
    have hD : va_D A [(h, .inr (0, [.ref r])), (r, .inl (cI, 86, .inl f_2))] := by rw [ef_2]; exact hD
    refine lv_aload_n (pc := 66) hx hb dX0_comeThrough_66 rfl (lv_at hl 1 rfl) ?_
    refine va_get (pc := 67) (D := D) (ci := 0) (v := .ref r) (C := RX0) (T := TX0) (N := 1) hx hb hts hi_X0_comeThrough_X0 hown hK hP 0 rfl rfl 0 (by decide) (hts _ hw_X0_comeThrough_0) (fun _ h9 => h9) rfl dX0_comeThrough_67 ?_
    refine lv_iload_n (pc := 70) hx hb dX0_comeThrough_70 rfl (lv_at hl 2 rfl) ?_
    refine lv_bipush (pc := 71) (v := 11) hx hb dX0_comeThrough_71 (by decide) ?_
    refine lv_iadd (pc := 73) hx hb dX0_comeThrough_73 ?_
    refine b_re (nI_add P 11) ?_
    refine lv_dup2_11 (pc := 74) hx hb dX0_comeThrough_74 rfl rfl ?_
    refine b_iald (pc := 75) hx hb hK hP 1 0 rfl rfl (P + 11) rfl (by omega) (by decide) dX0_comeThrough_75 ?_
    refine lv_aload_n (pc := 76) hx hb dX0_comeThrough_76 rfl (lv_at hl 1 rfl) ?_
    refine va_get (pc := 77) (D := D) (ci := 0) (v := .ref r) (C := RX0) (T := TX0) (N := 1) hx hb hts hi_X0_comeThrough_X0 hown hK hP 0 rfl rfl 0 (by decide) (hts _ hw_X0_comeThrough_0) (fun _ h9 => h9) rfl dX0_comeThrough_77 ?_
    refine lv_iconst (pc := 80) (v := 3) hx hb dX0_comeThrough_80 (by decide) ?_
    refine b_iald (pc := 81) hx hb hK hP 1 0 rfl rfl 3 rfl (by omega) (by decide) dX0_comeThrough_81 ?_
    refine lv_iload_n (pc := 82) hx hb dX0_comeThrough_82 rfl (lv_at hl 0 rfl) ?_
    refine lv_isub (pc := 83) hx hb dX0_comeThrough_83 ?_
    refine lv_iadd (pc := 84) hx hb dX0_comeThrough_84 ?_
    refine b_iast (pc := 85) hx hb hK hP hD hS 1 0 rfl rfl (P + 11) rfl (by omega) (by decide) dX0_comeThrough_85 (fun H locs hP hD hS => ?_)
    obtain ⟨f_3, ef_3⟩ : ∃ z : Nat → Int32, z = upd f_2 (P + 11) ((f_2 (P + 11)) + ((f_2 3) - (f (P + 1)))) := ⟨_, rfl⟩
    have hP : va_P D vwCl [(h, .inr (0, [.ref r])), (r, .inl (cI, 86, .inl f_3))] H := by rw [ef_3]; exact hP
    have hD : va_D A [(h, .inr (0, [.ref r])), (r, .inl (cI, 86, .inl f_3))] := by rw [ef_3]; exact hD
    refine lv_aload_n (pc := 86) hx hb dX0_comeThrough_86 rfl (lv_at hl 1 rfl) ?_
    refine va_get (pc := 87) (D := D) (ci := 0) (v := .ref r) (C := RX0) (T := TX0) (N := 1) hx hb hts hi_X0_comeThrough_X0 hown hK hP 0 rfl rfl 0 (by decide) (hts _ hw_X0_comeThrough_0) (fun _ h9 => h9) rfl dX0_comeThrough_87 ?_
    refine lv_iload_n (pc := 90) hx hb dX0_comeThrough_90 rfl (lv_at hl 2 rfl) ?_
    refine lv_iconst (pc := 91) (v := 4) hx hb dX0_comeThrough_91 (by decide) ?_
    refine lv_iadd (pc := 92) hx hb dX0_comeThrough_92 ?_
    refine b_re (nI_add P 4) ?_
    refine lv_iload_n (pc := 93) hx hb dX0_comeThrough_93 rfl (lv_at hl 3 rfl) ?_
    refine b_iast (pc := 94) hx hb hK hP hD hS 1 0 rfl rfl (P + 4) rfl (by omega) (by decide) dX0_comeThrough_94 (fun H locs hP hD hS => ?_)
    obtain ⟨f_4, ef_4⟩ : ∃ z : Nat → Int32, z = upd f_3 (P + 4) (nI w) := ⟨_, rfl⟩
    have hP : va_P D vwCl [(h, .inr (0, [.ref r])), (r, .inl (cI, 86, .inl f_4))] H := by rw [ef_4]; exact hP
    have hD : va_D A [(h, .inr (0, [.ref r])), (r, .inl (cI, 86, .inl f_4))] := by rw [ef_4]; exact hD
    refine lv_aload_n (pc := 95) hx hb dX0_comeThrough_95 rfl (lv_at hl 1 rfl) ?_
    refine va_get (pc := 96) (D := D) (ci := 0) (v := .ref r) (C := RX0) (T := TX0) (N := 1) hx hb hts hi_X0_comeThrough_X0 hown hK hP 0 rfl rfl 0 (by decide) (hts _ hw_X0_comeThrough_0) (fun _ h9 => h9) rfl dX0_comeThrough_96 ?_
    refine lv_iload_n (pc := 99) hx hb dX0_comeThrough_99 rfl (lv_at hl 2 rfl) ?_
    refine lv_bipush (pc := 100) (v := 12) hx hb dX0_comeThrough_100 (by decide) ?_
    refine lv_iadd (pc := 102) hx hb dX0_comeThrough_102 ?_
    refine b_re (nI_add P 12) ?_
    refine lv_aload_n (pc := 103) hx hb dX0_comeThrough_103 rfl (lv_at hl 1 rfl) ?_
    refine va_get (pc := 104) (D := D) (ci := 0) (v := .ref r) (C := RX0) (T := TX0) (N := 1) hx hb hts hi_X0_comeThrough_X0 hown hK hP 0 rfl rfl 0 (by decide) (hts _ hw_X0_comeThrough_0) (fun _ h9 => h9) rfl dX0_comeThrough_104 ?_
    refine lv_iconst (pc := 107) (v := 3) hx hb dX0_comeThrough_107 (by decide) ?_
    refine b_iald (pc := 108) hx hb hK hP 1 0 rfl rfl 3 rfl (by omega) (by decide) dX0_comeThrough_108 ?_
    refine b_iast (pc := 109) hx hb hK hP hD hS 1 0 rfl rfl (P + 12) rfl (by omega) (by decide) dX0_comeThrough_109 (fun H locs hP hD hS => ?_)
    obtain ⟨f_5, ef_5⟩ : ∃ z : Nat → Int32, z = upd f_4 (P + 12) (f_4 3) := ⟨_, rfl⟩
    have hP : va_P D vwCl [(h, .inr (0, [.ref r])), (r, .inl (cI, 86, .inl f_5))] H := by rw [ef_5]; exact hP
    have hD : va_D A [(h, .inr (0, [.ref r])), (r, .inl (cI, 86, .inl f_5))] := by rw [ef_5]; exact hD
    subst ef_2
    subst ef_3
    subst ef_4
    subst ef_5
    subst hQ
    exact b_retV hx hb hr hlocks hS (by first | exact hP | (refine (b_eqP ?_ hP); simp only [h_come, h_come1, h_come2, if_neg c_1])) dX0_comeThrough_110
  · skip
    have c_1 : (f (P + 4)) = (nI w) := c_1
    refine lv_iload_n (pc := 21) hx hb dX0_comeThrough_21 rfl (lv_at hl 0 rfl) ?_
    refine lv_aload_n (pc := 22) hx hb dX0_comeThrough_22 rfl (lv_at hl 1 rfl) ?_
    refine va_get (pc := 23) (D := D) (ci := 0) (v := .ref r) (C := RX0) (T := TX0) (N := 1) hx hb hts hi_X0_comeThrough_X0 hown hK hP 0 rfl rfl 0 (by decide) (hts _ hw_X0_comeThrough_0) (fun _ h9 => h9) rfl dX0_comeThrough_23 ?_
    refine lv_iload_n (pc := 26) hx hb dX0_comeThrough_26 rfl (lv_at hl 2 rfl) ?_
    refine lv_bipush (pc := 27) (v := 12) hx hb dX0_comeThrough_27 (by decide) ?_
    refine lv_iadd (pc := 29) hx hb dX0_comeThrough_29 ?_
    refine b_re (nI_add P 12) ?_
    refine b_iald (pc := 30) hx hb hK hP 1 0 rfl rfl (P + 12) rfl (by omega) (by decide) dX0_comeThrough_30 ?_
    refine lv_isub (pc := 31) hx hb dX0_comeThrough_31 ?_
    refine lv_aload_n (pc := 32) hx hb dX0_comeThrough_32 rfl (lv_at hl 1 rfl) ?_
    refine va_get (pc := 33) (D := D) (ci := 0) (v := .ref r) (C := RX0) (T := TX0) (N := 1) hx hb hts hi_X0_comeThrough_X0 hown hK hP 0 rfl rfl 0 (by decide) (hts _ hw_X0_comeThrough_0) (fun _ h9 => h9) rfl dX0_comeThrough_33 ?_
    refine lv_iconst (pc := 36) (v := 1) hx hb dX0_comeThrough_36 (by decide) ?_
    refine b_iald (pc := 37) hx hb hK hP 1 0 rfl rfl 1 rfl (by omega) (by decide) dX0_comeThrough_37 ?_
    refine lv_icmp_gt (pc := 38) (tgt := 54) hx hb dX0_comeThrough_38 (by decide) (fun c_6 => ?_) (fun c_6 => ?_)
    · skip
      have c_6 : (f 1) < ((f (P + 1)) - (f (P + 12))) := c_6
      refine lv_aload_n (pc := 54) hx hb dX0_comeThrough_54 rfl (lv_at hl 1 rfl) ?_
      refine va_get (pc := 55) (D := D) (ci := 0) (v := .ref r) (C := RX0) (T := TX0) (N := 1) hx hb hts hi_X0_comeThrough_X0 hown hK hP 0 rfl rfl 0 (by decide) (hts _ hw_X0_comeThrough_0) (fun _ h9 => h9) rfl dX0_comeThrough_55 ?_
      refine lv_iload_n (pc := 58) hx hb dX0_comeThrough_58 rfl (lv_at hl 2 rfl) ?_
      refine lv_iload_n (pc := 59) hx hb dX0_comeThrough_59 rfl (lv_at hl 3 rfl) ?_
      refine lv_iadd (pc := 60) hx hb dX0_comeThrough_60 ?_
      refine b_re (nI_add P w) ?_
      refine lv_dup2_11 (pc := 61) hx hb dX0_comeThrough_61 rfl rfl ?_
      refine b_iald (pc := 62) hx hb hK hP 1 0 rfl rfl (P + w) rfl (by omega) (by decide) dX0_comeThrough_62 ?_
      refine lv_iconst (pc := 63) (v := 1) hx hb dX0_comeThrough_63 (by decide) ?_
      refine lv_iadd (pc := 64) hx hb dX0_comeThrough_64 ?_
      refine b_iast (pc := 65) hx hb hK hP hD hS 1 0 rfl rfl (P + w) rfl (by omega) (by decide) dX0_comeThrough_65 (fun H locs hP hD hS => ?_)
      obtain ⟨f_7, ef_7⟩ : ∃ z : Nat → Int32, z = upd f (P + w) ((f (P + w)) + 1) := ⟨_, rfl⟩
      have hP : va_P D vwCl [(h, .inr (0, [.ref r])), (r, .inl (cI, 86, .inl f_7))] H := by rw [ef_7]; exact hP
      have hD : va_D A [(h, .inr (0, [.ref r])), (r, .inl (cI, 86, .inl f_7))] := by rw [ef_7]; exact hD
      refine lv_aload_n (pc := 66) hx hb dX0_comeThrough_66 rfl (lv_at hl 1 rfl) ?_
      refine va_get (pc := 67) (D := D) (ci := 0) (v := .ref r) (C := RX0) (T := TX0) (N := 1) hx hb hts hi_X0_comeThrough_X0 hown hK hP 0 rfl rfl 0 (by decide) (hts _ hw_X0_comeThrough_0) (fun _ h9 => h9) rfl dX0_comeThrough_67 ?_
      refine lv_iload_n (pc := 70) hx hb dX0_comeThrough_70 rfl (lv_at hl 2 rfl) ?_
      refine lv_bipush (pc := 71) (v := 11) hx hb dX0_comeThrough_71 (by decide) ?_
      refine lv_iadd (pc := 73) hx hb dX0_comeThrough_73 ?_
      refine b_re (nI_add P 11) ?_
      refine lv_dup2_11 (pc := 74) hx hb dX0_comeThrough_74 rfl rfl ?_
      refine b_iald (pc := 75) hx hb hK hP 1 0 rfl rfl (P + 11) rfl (by omega) (by decide) dX0_comeThrough_75 ?_
      refine lv_aload_n (pc := 76) hx hb dX0_comeThrough_76 rfl (lv_at hl 1 rfl) ?_
      refine va_get (pc := 77) (D := D) (ci := 0) (v := .ref r) (C := RX0) (T := TX0) (N := 1) hx hb hts hi_X0_comeThrough_X0 hown hK hP 0 rfl rfl 0 (by decide) (hts _ hw_X0_comeThrough_0) (fun _ h9 => h9) rfl dX0_comeThrough_77 ?_
      refine lv_iconst (pc := 80) (v := 3) hx hb dX0_comeThrough_80 (by decide) ?_
      refine b_iald (pc := 81) hx hb hK hP 1 0 rfl rfl 3 rfl (by omega) (by decide) dX0_comeThrough_81 ?_
      refine lv_iload_n (pc := 82) hx hb dX0_comeThrough_82 rfl (lv_at hl 0 rfl) ?_
      refine lv_isub (pc := 83) hx hb dX0_comeThrough_83 ?_
      refine lv_iadd (pc := 84) hx hb dX0_comeThrough_84 ?_
      refine b_iast (pc := 85) hx hb hK hP hD hS 1 0 rfl rfl (P + 11) rfl (by omega) (by decide) dX0_comeThrough_85 (fun H locs hP hD hS => ?_)
      obtain ⟨f_8, ef_8⟩ : ∃ z : Nat → Int32, z = upd f_7 (P + 11) ((f_7 (P + 11)) + ((f_7 3) - (f (P + 1)))) := ⟨_, rfl⟩
      have hP : va_P D vwCl [(h, .inr (0, [.ref r])), (r, .inl (cI, 86, .inl f_8))] H := by rw [ef_8]; exact hP
      have hD : va_D A [(h, .inr (0, [.ref r])), (r, .inl (cI, 86, .inl f_8))] := by rw [ef_8]; exact hD
      refine lv_aload_n (pc := 86) hx hb dX0_comeThrough_86 rfl (lv_at hl 1 rfl) ?_
      refine va_get (pc := 87) (D := D) (ci := 0) (v := .ref r) (C := RX0) (T := TX0) (N := 1) hx hb hts hi_X0_comeThrough_X0 hown hK hP 0 rfl rfl 0 (by decide) (hts _ hw_X0_comeThrough_0) (fun _ h9 => h9) rfl dX0_comeThrough_87 ?_
      refine lv_iload_n (pc := 90) hx hb dX0_comeThrough_90 rfl (lv_at hl 2 rfl) ?_
      refine lv_iconst (pc := 91) (v := 4) hx hb dX0_comeThrough_91 (by decide) ?_
      refine lv_iadd (pc := 92) hx hb dX0_comeThrough_92 ?_
      refine b_re (nI_add P 4) ?_
      refine lv_iload_n (pc := 93) hx hb dX0_comeThrough_93 rfl (lv_at hl 3 rfl) ?_
      refine b_iast (pc := 94) hx hb hK hP hD hS 1 0 rfl rfl (P + 4) rfl (by omega) (by decide) dX0_comeThrough_94 (fun H locs hP hD hS => ?_)
      obtain ⟨f_9, ef_9⟩ : ∃ z : Nat → Int32, z = upd f_8 (P + 4) (nI w) := ⟨_, rfl⟩
      have hP : va_P D vwCl [(h, .inr (0, [.ref r])), (r, .inl (cI, 86, .inl f_9))] H := by rw [ef_9]; exact hP
      have hD : va_D A [(h, .inr (0, [.ref r])), (r, .inl (cI, 86, .inl f_9))] := by rw [ef_9]; exact hD
      refine lv_aload_n (pc := 95) hx hb dX0_comeThrough_95 rfl (lv_at hl 1 rfl) ?_
      refine va_get (pc := 96) (D := D) (ci := 0) (v := .ref r) (C := RX0) (T := TX0) (N := 1) hx hb hts hi_X0_comeThrough_X0 hown hK hP 0 rfl rfl 0 (by decide) (hts _ hw_X0_comeThrough_0) (fun _ h9 => h9) rfl dX0_comeThrough_96 ?_
      refine lv_iload_n (pc := 99) hx hb dX0_comeThrough_99 rfl (lv_at hl 2 rfl) ?_
      refine lv_bipush (pc := 100) (v := 12) hx hb dX0_comeThrough_100 (by decide) ?_
      refine lv_iadd (pc := 102) hx hb dX0_comeThrough_102 ?_
      refine b_re (nI_add P 12) ?_
      refine lv_aload_n (pc := 103) hx hb dX0_comeThrough_103 rfl (lv_at hl 1 rfl) ?_
      refine va_get (pc := 104) (D := D) (ci := 0) (v := .ref r) (C := RX0) (T := TX0) (N := 1) hx hb hts hi_X0_comeThrough_X0 hown hK hP 0 rfl rfl 0 (by decide) (hts _ hw_X0_comeThrough_0) (fun _ h9 => h9) rfl dX0_comeThrough_104 ?_
      refine lv_iconst (pc := 107) (v := 3) hx hb dX0_comeThrough_107 (by decide) ?_
      refine b_iald (pc := 108) hx hb hK hP 1 0 rfl rfl 3 rfl (by omega) (by decide) dX0_comeThrough_108 ?_
      refine b_iast (pc := 109) hx hb hK hP hD hS 1 0 rfl rfl (P + 12) rfl (by omega) (by decide) dX0_comeThrough_109 (fun H locs hP hD hS => ?_)
      obtain ⟨f_10, ef_10⟩ : ∃ z : Nat → Int32, z = upd f_9 (P + 12) (f_9 3) := ⟨_, rfl⟩
      have hP : va_P D vwCl [(h, .inr (0, [.ref r])), (r, .inl (cI, 86, .inl f_10))] H := by rw [ef_10]; exact hP
      have hD : va_D A [(h, .inr (0, [.ref r])), (r, .inl (cI, 86, .inl f_10))] := by rw [ef_10]; exact hD
      subst ef_7
      subst ef_8
      subst ef_9
      subst ef_10
      subst hQ
      exact b_retV hx hb hr hlocks hS (by first | exact hP | (refine (b_eqP ?_ hP); simp only [h_come, h_come1, h_come2, if_pos c_1, if_pos c_6])) dX0_comeThrough_110
    · skip
      have c_6 : ¬ ((f 1) < ((f (P + 1)) - (f (P + 12)))) := c_6
      refine lv_aload_n (pc := 41) hx hb dX0_comeThrough_41 rfl (lv_at hl 1 rfl) ?_
      refine va_get (pc := 42) (D := D) (ci := 0) (v := .ref r) (C := RX0) (T := TX0) (N := 1) hx hb hts hi_X0_comeThrough_X0 hown hK hP 0 rfl rfl 0 (by decide) (hts _ hw_X0_comeThrough_0) (fun _ h9 => h9) rfl dX0_comeThrough_42 ?_
      refine lv_iload_n (pc := 45) hx hb dX0_comeThrough_45 rfl (lv_at hl 2 rfl) ?_
      refine lv_bipush (pc := 46) (v := 10) hx hb dX0_comeThrough_46 (by decide) ?_
      refine lv_iadd (pc := 48) hx hb dX0_comeThrough_48 ?_
      refine b_re (nI_add P 10) ?_
      refine lv_dup2_11 (pc := 49) hx hb dX0_comeThrough_49 rfl rfl ?_
      refine b_iald (pc := 50) hx hb hK hP 1 0 rfl rfl (P + 10) rfl (by omega) (by decide) dX0_comeThrough_50 ?_
      refine lv_iconst (pc := 51) (v := 1) hx hb dX0_comeThrough_51 (by decide) ?_
      refine lv_iadd (pc := 52) hx hb dX0_comeThrough_52 ?_
      refine b_iast (pc := 53) hx hb hK hP hD hS 1 0 rfl rfl (P + 10) rfl (by omega) (by decide) dX0_comeThrough_53 (fun H locs hP hD hS => ?_)
      obtain ⟨f_11, ef_11⟩ : ∃ z : Nat → Int32, z = upd f (P + 10) ((f (P + 10)) + 1) := ⟨_, rfl⟩
      have hP : va_P D vwCl [(h, .inr (0, [.ref r])), (r, .inl (cI, 86, .inl f_11))] H := by rw [ef_11]; exact hP
      have hD : va_D A [(h, .inr (0, [.ref r])), (r, .inl (cI, 86, .inl f_11))] := by rw [ef_11]; exact hD
      refine lv_aload_n (pc := 54) hx hb dX0_comeThrough_54 rfl (lv_at hl 1 rfl) ?_
      refine va_get (pc := 55) (D := D) (ci := 0) (v := .ref r) (C := RX0) (T := TX0) (N := 1) hx hb hts hi_X0_comeThrough_X0 hown hK hP 0 rfl rfl 0 (by decide) (hts _ hw_X0_comeThrough_0) (fun _ h9 => h9) rfl dX0_comeThrough_55 ?_
      refine lv_iload_n (pc := 58) hx hb dX0_comeThrough_58 rfl (lv_at hl 2 rfl) ?_
      refine lv_iload_n (pc := 59) hx hb dX0_comeThrough_59 rfl (lv_at hl 3 rfl) ?_
      refine lv_iadd (pc := 60) hx hb dX0_comeThrough_60 ?_
      refine b_re (nI_add P w) ?_
      refine lv_dup2_11 (pc := 61) hx hb dX0_comeThrough_61 rfl rfl ?_
      refine b_iald (pc := 62) hx hb hK hP 1 0 rfl rfl (P + w) rfl (by omega) (by decide) dX0_comeThrough_62 ?_
      refine lv_iconst (pc := 63) (v := 1) hx hb dX0_comeThrough_63 (by decide) ?_
      refine lv_iadd (pc := 64) hx hb dX0_comeThrough_64 ?_
      refine b_iast (pc := 65) hx hb hK hP hD hS 1 0 rfl rfl (P + w) rfl (by omega) (by decide) dX0_comeThrough_65 (fun H locs hP hD hS => ?_)
      obtain ⟨f_12, ef_12⟩ : ∃ z : Nat → Int32, z = upd f_11 (P + w) ((f_11 (P + w)) + 1) := ⟨_, rfl⟩
      have hP : va_P D vwCl [(h, .inr (0, [.ref r])), (r, .inl (cI, 86, .inl f_12))] H := by rw [ef_12]; exact hP
      have hD : va_D A [(h, .inr (0, [.ref r])), (r, .inl (cI, 86, .inl f_12))] := by rw [ef_12]; exact hD
      refine lv_aload_n (pc := 66) hx hb dX0_comeThrough_66 rfl (lv_at hl 1 rfl) ?_
      refine va_get (pc := 67) (D := D) (ci := 0) (v := .ref r) (C := RX0) (T := TX0) (N := 1) hx hb hts hi_X0_comeThrough_X0 hown hK hP 0 rfl rfl 0 (by decide) (hts _ hw_X0_comeThrough_0) (fun _ h9 => h9) rfl dX0_comeThrough_67 ?_
      refine lv_iload_n (pc := 70) hx hb dX0_comeThrough_70 rfl (lv_at hl 2 rfl) ?_
      refine lv_bipush (pc := 71) (v := 11) hx hb dX0_comeThrough_71 (by decide) ?_
      refine lv_iadd (pc := 73) hx hb dX0_comeThrough_73 ?_
      refine b_re (nI_add P 11) ?_
      refine lv_dup2_11 (pc := 74) hx hb dX0_comeThrough_74 rfl rfl ?_
      refine b_iald (pc := 75) hx hb hK hP 1 0 rfl rfl (P + 11) rfl (by omega) (by decide) dX0_comeThrough_75 ?_
      refine lv_aload_n (pc := 76) hx hb dX0_comeThrough_76 rfl (lv_at hl 1 rfl) ?_
      refine va_get (pc := 77) (D := D) (ci := 0) (v := .ref r) (C := RX0) (T := TX0) (N := 1) hx hb hts hi_X0_comeThrough_X0 hown hK hP 0 rfl rfl 0 (by decide) (hts _ hw_X0_comeThrough_0) (fun _ h9 => h9) rfl dX0_comeThrough_77 ?_
      refine lv_iconst (pc := 80) (v := 3) hx hb dX0_comeThrough_80 (by decide) ?_
      refine b_iald (pc := 81) hx hb hK hP 1 0 rfl rfl 3 rfl (by omega) (by decide) dX0_comeThrough_81 ?_
      refine lv_iload_n (pc := 82) hx hb dX0_comeThrough_82 rfl (lv_at hl 0 rfl) ?_
      refine lv_isub (pc := 83) hx hb dX0_comeThrough_83 ?_
      refine lv_iadd (pc := 84) hx hb dX0_comeThrough_84 ?_
      refine b_iast (pc := 85) hx hb hK hP hD hS 1 0 rfl rfl (P + 11) rfl (by omega) (by decide) dX0_comeThrough_85 (fun H locs hP hD hS => ?_)
      obtain ⟨f_13, ef_13⟩ : ∃ z : Nat → Int32, z = upd f_12 (P + 11) ((f_12 (P + 11)) + ((f_12 3) - (f (P + 1)))) := ⟨_, rfl⟩
      have hP : va_P D vwCl [(h, .inr (0, [.ref r])), (r, .inl (cI, 86, .inl f_13))] H := by rw [ef_13]; exact hP
      have hD : va_D A [(h, .inr (0, [.ref r])), (r, .inl (cI, 86, .inl f_13))] := by rw [ef_13]; exact hD
      refine lv_aload_n (pc := 86) hx hb dX0_comeThrough_86 rfl (lv_at hl 1 rfl) ?_
      refine va_get (pc := 87) (D := D) (ci := 0) (v := .ref r) (C := RX0) (T := TX0) (N := 1) hx hb hts hi_X0_comeThrough_X0 hown hK hP 0 rfl rfl 0 (by decide) (hts _ hw_X0_comeThrough_0) (fun _ h9 => h9) rfl dX0_comeThrough_87 ?_
      refine lv_iload_n (pc := 90) hx hb dX0_comeThrough_90 rfl (lv_at hl 2 rfl) ?_
      refine lv_iconst (pc := 91) (v := 4) hx hb dX0_comeThrough_91 (by decide) ?_
      refine lv_iadd (pc := 92) hx hb dX0_comeThrough_92 ?_
      refine b_re (nI_add P 4) ?_
      refine lv_iload_n (pc := 93) hx hb dX0_comeThrough_93 rfl (lv_at hl 3 rfl) ?_
      refine b_iast (pc := 94) hx hb hK hP hD hS 1 0 rfl rfl (P + 4) rfl (by omega) (by decide) dX0_comeThrough_94 (fun H locs hP hD hS => ?_)
      obtain ⟨f_14, ef_14⟩ : ∃ z : Nat → Int32, z = upd f_13 (P + 4) (nI w) := ⟨_, rfl⟩
      have hP : va_P D vwCl [(h, .inr (0, [.ref r])), (r, .inl (cI, 86, .inl f_14))] H := by rw [ef_14]; exact hP
      have hD : va_D A [(h, .inr (0, [.ref r])), (r, .inl (cI, 86, .inl f_14))] := by rw [ef_14]; exact hD
      refine lv_aload_n (pc := 95) hx hb dX0_comeThrough_95 rfl (lv_at hl 1 rfl) ?_
      refine va_get (pc := 96) (D := D) (ci := 0) (v := .ref r) (C := RX0) (T := TX0) (N := 1) hx hb hts hi_X0_comeThrough_X0 hown hK hP 0 rfl rfl 0 (by decide) (hts _ hw_X0_comeThrough_0) (fun _ h9 => h9) rfl dX0_comeThrough_96 ?_
      refine lv_iload_n (pc := 99) hx hb dX0_comeThrough_99 rfl (lv_at hl 2 rfl) ?_
      refine lv_bipush (pc := 100) (v := 12) hx hb dX0_comeThrough_100 (by decide) ?_
      refine lv_iadd (pc := 102) hx hb dX0_comeThrough_102 ?_
      refine b_re (nI_add P 12) ?_
      refine lv_aload_n (pc := 103) hx hb dX0_comeThrough_103 rfl (lv_at hl 1 rfl) ?_
      refine va_get (pc := 104) (D := D) (ci := 0) (v := .ref r) (C := RX0) (T := TX0) (N := 1) hx hb hts hi_X0_comeThrough_X0 hown hK hP 0 rfl rfl 0 (by decide) (hts _ hw_X0_comeThrough_0) (fun _ h9 => h9) rfl dX0_comeThrough_104 ?_
      refine lv_iconst (pc := 107) (v := 3) hx hb dX0_comeThrough_107 (by decide) ?_
      refine b_iald (pc := 108) hx hb hK hP 1 0 rfl rfl 3 rfl (by omega) (by decide) dX0_comeThrough_108 ?_
      refine b_iast (pc := 109) hx hb hK hP hD hS 1 0 rfl rfl (P + 12) rfl (by omega) (by decide) dX0_comeThrough_109 (fun H locs hP hD hS => ?_)
      obtain ⟨f_15, ef_15⟩ : ∃ z : Nat → Int32, z = upd f_14 (P + 12) (f_14 3) := ⟨_, rfl⟩
      have hP : va_P D vwCl [(h, .inr (0, [.ref r])), (r, .inl (cI, 86, .inl f_15))] H := by rw [ef_15]; exact hP
      have hD : va_D A [(h, .inr (0, [.ref r])), (r, .inl (cI, 86, .inl f_15))] := by rw [ef_15]; exact hD
      subst ef_11
      subst ef_12
      subst ef_13
      subst ef_14
      subst ef_15
      subst hQ
      exact b_retV hx hb hr hlocks hS (by first | exact hP | (refine (b_eqP ?_ hP); simp only [h_come, h_come1, h_come2, if_pos c_1, if_neg c_6])) dX0_comeThrough_110
theorem hw_X0_end_0 : (.fieldLink RX0 11 "BeamTurnstiles$Hall" "row" "[I" : Cond) ∈ wsX0_end := by decide +kernel
theorem hi_X0_end_X0 : ∀ w ∈ wsX00, w ∈ wsX0_end := by decide +kernel
set_option maxHeartbeats 4000000 in
set_option maxRecDepth 100000 in
/-- Hall.end -/
theorem c_X0_end (l : Launch) (D : va_G) (cI cC cZ cG : ClassId) (tb lo hi : Nat) (sz : Nat) (h : Nat) (r : Nat) (f : Nat → Int32) (P : Nat) (hp : P + 13 ≤ 86) : Met l yX0_end wsX0_end ({ frames := 2, cells := 0, slots := 0, locals := 41 } : Room) (b_W D (b_T cI cC cZ cG) (b_X tb lo hi) [(h, .inr (0, [.ref r])), (r, .inl (cI, 86, .inl f))] sz [.ref h, .int (nI P)]) (b_Qv D [(h, .inr (0, [.ref r])), (r, .inl (cI, 86, .inl (h_end f P)))] (va_A [(h, .inr (0, [.ref r])), (r, .inl (cI, 86, .inl f))] sz)) 0 0 (va_A [(h, .inr (0, [.ref r])), (r, .inl (cI, 86, .inl f))] sz) := by
  refine b_enterW (Qc := fun A => b_Qv D [(h, .inr (0, [.ref r])), (r, .inl (cI, 86, .inl (h_end f P)))] A) (cc := cX0_end) (maxL := 2) (ret := none) (by decide) rfl (Nat.le_of_ble_eq_true rfl) ?_
  intro p e s m below meth c ls A hx hb hr hml hown hts hlocks hname hP hK hD hA hS hX hl Q hQ
  have hown : s.vm.findClass RX0 = some m.cls := hown
  have hl : lv_has ls 2 [(0, .ref h), (1, .int (nI P))] := hl
  refine lv_aload_n (pc := 0) hx hb dX0_end_0 rfl (lv_at hl 0 rfl) ?_
  refine va_get (pc := 1) (D := D) (ci := 0) (v := .ref r) (C := RX0) (T := TX0) (N := 1) hx hb hts hi_X0_end_X0 hown hK hP 0 rfl rfl 0 (by decide) (hts _ hw_X0_end_0) (fun _ h9 => h9) rfl dX0_end_1 ?_
  refine lv_iconst (pc := 4) (v := 3) hx hb dX0_end_4 (by decide) ?_
  refine b_iald (pc := 5) hx hb hK hP 1 0 rfl rfl 3 rfl (by omega) (by decide) dX0_end_5 ?_
  refine lv_aload_n (pc := 6) hx hb dX0_end_6 rfl (lv_at hl 0 rfl) ?_
  refine va_get (pc := 7) (D := D) (ci := 0) (v := .ref r) (C := RX0) (T := TX0) (N := 1) hx hb hts hi_X0_end_X0 hown hK hP 0 rfl rfl 0 (by decide) (hts _ hw_X0_end_0) (fun _ h9 => h9) rfl dX0_end_7 ?_
  refine lv_iload_n (pc := 10) hx hb dX0_end_10 rfl (lv_at hl 1 rfl) ?_
  refine lv_iconst (pc := 11) (v := 1) hx hb dX0_end_11 (by decide) ?_
  refine lv_iadd (pc := 12) hx hb dX0_end_12 ?_
  refine b_re (nI_add P 1) ?_
  refine b_iald (pc := 13) hx hb hK hP 1 0 rfl rfl (P + 1) rfl (by omega) (by decide) dX0_end_13 ?_
  refine lv_isub (pc := 14) hx hb dX0_end_14 ?_
  refine lv_aload_n (pc := 15) hx hb dX0_end_15 rfl (lv_at hl 0 rfl) ?_
  refine va_get (pc := 16) (D := D) (ci := 0) (v := .ref r) (C := RX0) (T := TX0) (N := 1) hx hb hts hi_X0_end_X0 hown hK hP 0 rfl rfl 0 (by decide) (hts _ hw_X0_end_0) (fun _ h9 => h9) rfl dX0_end_16 ?_
  refine lv_iconst (pc := 19) (v := 0) hx hb dX0_end_19 (by decide) ?_
  refine b_iald (pc := 20) hx hb hK hP 1 0 rfl rfl 0 rfl (by omega) (by decide) dX0_end_20 ?_
  refine lv_icmp_lt (pc := 21) (tgt := 37) hx hb dX0_end_21 (by decide) (fun c_1 => ?_) (fun c_1 => ?_)
  · skip
    have c_1 : ((f 3) - (f (P + 1))) < (f 0) := c_1
    refine lv_aload_n (pc := 37) hx hb dX0_end_37 rfl (lv_at hl 0 rfl) ?_
    refine va_get (pc := 38) (D := D) (ci := 0) (v := .ref r) (C := RX0) (T := TX0) (N := 1) hx hb hts hi_X0_end_X0 hown hK hP 0 rfl rfl 0 (by decide) (hts _ hw_X0_end_0) (fun _ h9 => h9) rfl dX0_end_38 ?_
    refine lv_iload_n (pc := 41) hx hb dX0_end_41 rfl (lv_at hl 1 rfl) ?_
    refine lv_iconst (pc := 42) (v := 3) hx hb dX0_end_42 (by decide) ?_
    refine lv_iadd (pc := 43) hx hb dX0_end_43 ?_
    refine b_re (nI_add P 3) ?_
    refine b_iald (pc := 44) hx hb hK hP 1 0 rfl rfl (P + 3) rfl (by omega) (by decide) dX0_end_44 ?_
    refine lv_if_ne (pc := 45) (tgt := 64) hx hb dX0_end_45 (by decide) (fun c_2 => ?_) (fun c_2 => ?_)
    · skip
      have c_2 : ¬ ((f (P + 3)) = 0) := c_2
      refine lv_aload_n (pc := 64) hx hb dX0_end_64 rfl (lv_at hl 0 rfl) ?_
      refine va_get (pc := 65) (D := D) (ci := 0) (v := .ref r) (C := RX0) (T := TX0) (N := 1) hx hb hts hi_X0_end_X0 hown hK hP 0 rfl rfl 0 (by decide) (hts _ hw_X0_end_0) (fun _ h9 => h9) rfl dX0_end_65 ?_
      refine lv_iload_n (pc := 68) hx hb dX0_end_68 rfl (lv_at hl 1 rfl) ?_
      refine lv_iconst (pc := 69) (v := 2) hx hb dX0_end_69 (by decide) ?_
      refine lv_iadd (pc := 70) hx hb dX0_end_70 ?_
      refine b_re (nI_add P 2) ?_
      refine b_iald (pc := 71) hx hb hK hP 1 0 rfl rfl (P + 2) rfl (by omega) (by decide) dX0_end_71 ?_
      refine lv_iconst (pc := 72) (v := 4) hx hb dX0_end_72 (by decide) ?_
      refine lv_icmp_ne (pc := 73) (tgt := 89) hx hb dX0_end_73 (by decide) (fun c_3 => ?_) (fun c_3 => ?_)
      · skip
        have c_3 : ¬ ((f (P + 2)) = 4) := c_3
        refine lv_aload_n (pc := 89) hx hb dX0_end_89 rfl (lv_at hl 0 rfl) ?_
        refine va_get (pc := 90) (D := D) (ci := 0) (v := .ref r) (C := RX0) (T := TX0) (N := 1) hx hb hts hi_X0_end_X0 hown hK hP 0 rfl rfl 0 (by decide) (hts _ hw_X0_end_0) (fun _ h9 => h9) rfl dX0_end_90 ?_
        refine lv_iload_n (pc := 93) hx hb dX0_end_93 rfl (lv_at hl 1 rfl) ?_
        refine lv_iconst (pc := 94) (v := 2) hx hb dX0_end_94 (by decide) ?_
        refine lv_iadd (pc := 95) hx hb dX0_end_95 ?_
        refine b_re (nI_add P 2) ?_
        refine b_iald (pc := 96) hx hb hK hP 1 0 rfl rfl (P + 2) rfl (by omega) (by decide) dX0_end_96 ?_
        refine lv_bipush (pc := 97) (v := (-4)) hx hb dX0_end_97 (by decide) ?_
        refine lv_icmp_ne (pc := 99) (tgt := 116) hx hb dX0_end_99 (by decide) (fun c_4 => ?_) (fun c_4 => ?_)
        · skip
          have c_4 : ¬ ((f (P + 2)) = (-4)) := c_4
          refine lv_aload_n (pc := 116) hx hb dX0_end_116 rfl (lv_at hl 0 rfl) ?_
          refine va_get (pc := 117) (D := D) (ci := 0) (v := .ref r) (C := RX0) (T := TX0) (N := 1) hx hb hts hi_X0_end_X0 hown hK hP 0 rfl rfl 0 (by decide) (hts _ hw_X0_end_0) (fun _ h9 => h9) rfl dX0_end_117 ?_
          refine lv_iload_n (pc := 120) hx hb dX0_end_120 rfl (lv_at hl 1 rfl) ?_
          refine lv_bipush (pc := 121) (v := 7) hx hb dX0_end_121 (by decide) ?_
          refine lv_iadd (pc := 123) hx hb dX0_end_123 ?_
          refine b_re (nI_add P 7) ?_
          refine lv_dup2_11 (pc := 124) hx hb dX0_end_124 rfl rfl ?_
          refine b_iald (pc := 125) hx hb hK hP 1 0 rfl rfl (P + 7) rfl (by omega) (by decide) dX0_end_125 ?_
          refine lv_iconst (pc := 126) (v := 1) hx hb dX0_end_126 (by decide) ?_
          refine lv_iadd (pc := 127) hx hb dX0_end_127 ?_
          refine b_iast (pc := 128) hx hb hK hP hD hS 1 0 rfl rfl (P + 7) rfl (by omega) (by decide) dX0_end_128 (fun H locs hP hD hS => ?_)
          obtain ⟨f_5, ef_5⟩ : ∃ z : Nat → Int32, z = upd f (P + 7) ((f (P + 7)) + 1) := ⟨_, rfl⟩
          have hP : va_P D vwCl [(h, .inr (0, [.ref r])), (r, .inl (cI, 86, .inl f_5))] H := by rw [ef_5]; exact hP
          have hD : va_D A [(h, .inr (0, [.ref r])), (r, .inl (cI, 86, .inl f_5))] := by rw [ef_5]; exact hD
          subst ef_5
          subst hQ
          exact b_retV hx hb hr hlocks hS (by first | exact hP | (refine (b_eqP ?_ hP); simp only [h_end, h_end1, h_end2, if_pos c_1, if_neg c_2, if_neg c_3, if_neg c_4])) dX0_end_129
        · skip
          have c_4 : (f (P + 2)) = (-4) := c_4
          refine lv_aload_n (pc := 102) hx hb dX0_end_102 rfl (lv_at hl 0 rfl) ?_
          refine lv_iload_n (pc := 103) hx hb dX0_end_103 rfl (lv_at hl 1 rfl) ?_
          refine lv_bipush (pc := 104) (v := 6) hx hb dX0_end_104 (by decide) ?_
          refine b_cV (pc := 106) (w1 := [(h, .inr (0, [.ref r])), (r, .inl (cI, 86, .inl (h_come f P 6)))]) (va_runV (As := [.int (nI P), .int 6]) (rest := []) ⟨hx, hb, hml, hown, hts⟩ (c_X0_comeThrough l D cI cC cZ cG tb lo hi s.heap.size h r f P 6 (by omega) (by omega)) (cwV 2 hts gX0_end_X0_comeThrough rfl rfl rfl hy_X0_comeThrough ⟨Nat.le_of_ble_eq_true rfl, Nat.le_of_ble_eq_true rfl⟩) (b_pWV (wc := [(h, .inr (0, [.ref r])), (r, .inl (cI, 86, .inl f))]) hK hP hD (b_Xok_X tb lo hi) [0, 1] rfl (by decide) rfl (b_Xc hX hD hS hA [0, 1] rfl) (ci := 0) (q0 := 0) rfl rfl) rfl rfl hl.1 rfl (lv_room (Nat.le_of_ble_eq_true rfl)) dX0_end_106 ⟨Nat.zero_le _, Nat.zero_le _⟩) hP hD hS hA [0, 1] rfl rfl (fun H locs hP hD hS => ?_)
          have hP : va_P D vwCl [(h, .inr (0, [.ref r])), (r, .inl (cI, 86, .inl (h_come f P 6)))] H := hP
          have hD : va_D A [(h, .inr (0, [.ref r])), (r, .inl (cI, 86, .inl (h_come f P 6)))] := hD
          refine lv_aload_n (pc := 109) hx hb dX0_end_109 rfl (lv_at hl 0 rfl) ?_
          refine b_cV (pc := 110) (w1 := [(h, .inr (0, [.ref r])), (r, .inl (cI, 86, .inl (h_less (h_come f P 6))))]) (va_runV (As := []) (rest := []) ⟨hx, hb, hml, hown, hts⟩ (c_X0_oneLessInside l D cI cC cZ cG tb lo hi H.size h r (h_come f P 6)) (cwV 0 hts gX0_end_X0_oneLessInside rfl rfl rfl hy_X0_oneLessInside ⟨Nat.le_of_ble_eq_true rfl, Nat.le_of_ble_eq_true rfl⟩) (b_pWV (wc := [(h, .inr (0, [.ref r])), (r, .inl (cI, 86, .inl (h_come f P 6)))]) hK hP hD (b_Xok_X tb lo hi) [0, 1] rfl (by decide) rfl (b_Xc hX hD hS hA [0, 1] rfl) (ci := 0) (q0 := 0) rfl rfl) rfl rfl hl.1 rfl (lv_room (Nat.le_of_ble_eq_true rfl)) dX0_end_110 ⟨Nat.zero_le _, Nat.zero_le _⟩) hP hD hS hA [0, 1] rfl rfl (fun H locs hP hD hS => ?_)
          have hP : va_P D vwCl [(h, .inr (0, [.ref r])), (r, .inl (cI, 86, .inl (h_less (h_come f P 6))))] H := hP
          have hD : va_D A [(h, .inr (0, [.ref r])), (r, .inl (cI, 86, .inl (h_less (h_come f P 6))))] := hD
          refine lv_goto (pc := 113) (tgt := 129) hx hb dX0_end_113 (by decide) ?_
          subst hQ
          exact b_retV hx hb hr hlocks hS (by first | exact hP | (refine (b_eqP ?_ hP); simp only [h_end, h_end1, h_end2, if_pos c_1, if_neg c_2, if_neg c_3, if_pos c_4])) dX0_end_129
      · skip
        have c_3 : (f (P + 2)) = 4 := c_3
        refine lv_aload_n (pc := 76) hx hb dX0_end_76 rfl (lv_at hl 0 rfl) ?_
        refine lv_iload_n (pc := 77) hx hb dX0_end_77 rfl (lv_at hl 1 rfl) ?_
        refine lv_iconst (pc := 78) (v := 5) hx hb dX0_end_78 (by decide) ?_
        refine b_cV (pc := 79) (w1 := [(h, .inr (0, [.ref r])), (r, .inl (cI, 86, .inl (h_come f P 5)))]) (va_runV (As := [.int (nI P), .int 5]) (rest := []) ⟨hx, hb, hml, hown, hts⟩ (c_X0_comeThrough l D cI cC cZ cG tb lo hi s.heap.size h r f P 5 (by omega) (by omega)) (cwV 2 hts gX0_end_X0_comeThrough rfl rfl rfl hy_X0_comeThrough ⟨Nat.le_of_ble_eq_true rfl, Nat.le_of_ble_eq_true rfl⟩) (b_pWV (wc := [(h, .inr (0, [.ref r])), (r, .inl (cI, 86, .inl f))]) hK hP hD (b_Xok_X tb lo hi) [0, 1] rfl (by decide) rfl (b_Xc hX hD hS hA [0, 1] rfl) (ci := 0) (q0 := 0) rfl rfl) rfl rfl hl.1 rfl (lv_room (Nat.le_of_ble_eq_true rfl)) dX0_end_79 ⟨Nat.zero_le _, Nat.zero_le _⟩) hP hD hS hA [0, 1] rfl rfl (fun H locs hP hD hS => ?_)
        have hP : va_P D vwCl [(h, .inr (0, [.ref r])), (r, .inl (cI, 86, .inl (h_come f P 5)))] H := hP
        have hD : va_D A [(h, .inr (0, [.ref r])), (r, .inl (cI, 86, .inl (h_come f P 5)))] := hD
        refine lv_aload_n (pc := 82) hx hb dX0_end_82 rfl (lv_at hl 0 rfl) ?_
        refine b_cV (pc := 83) (w1 := [(h, .inr (0, [.ref r])), (r, .inl (cI, 86, .inl (h_more (h_come f P 5))))]) (va_runV (As := []) (rest := []) ⟨hx, hb, hml, hown, hts⟩ (c_X0_oneMoreInside l D cI cC cZ cG tb lo hi H.size h r (h_come f P 5)) (cwV 0 hts gX0_end_X0_oneMoreInside rfl rfl rfl hy_X0_oneMoreInside ⟨Nat.le_of_ble_eq_true rfl, Nat.le_of_ble_eq_true rfl⟩) (b_pWV (wc := [(h, .inr (0, [.ref r])), (r, .inl (cI, 86, .inl (h_come f P 5)))]) hK hP hD (b_Xok_X tb lo hi) [0, 1] rfl (by decide) rfl (b_Xc hX hD hS hA [0, 1] rfl) (ci := 0) (q0 := 0) rfl rfl) rfl rfl hl.1 rfl (lv_room (Nat.le_of_ble_eq_true rfl)) dX0_end_83 ⟨Nat.zero_le _, Nat.zero_le _⟩) hP hD hS hA [0, 1] rfl rfl (fun H locs hP hD hS => ?_)
        have hP : va_P D vwCl [(h, .inr (0, [.ref r])), (r, .inl (cI, 86, .inl (h_more (h_come f P 5))))] H := hP
        have hD : va_D A [(h, .inr (0, [.ref r])), (r, .inl (cI, 86, .inl (h_more (h_come f P 5))))] := hD
        refine lv_goto (pc := 86) (tgt := 129) hx hb dX0_end_86 (by decide) ?_
        subst hQ
        exact b_retV hx hb hr hlocks hS (by first | exact hP | (refine (b_eqP ?_ hP); simp only [h_end, h_end1, h_end2, if_pos c_1, if_neg c_2, if_pos c_3])) dX0_end_129
    · skip
      have c_2 : (f (P + 3)) = 0 := c_2
      refine lv_aload_n (pc := 48) hx hb dX0_end_48 rfl (lv_at hl 0 rfl) ?_
      refine va_get (pc := 49) (D := D) (ci := 0) (v := .ref r) (C := RX0) (T := TX0) (N := 1) hx hb hts hi_X0_end_X0 hown hK hP 0 rfl rfl 0 (by decide) (hts _ hw_X0_end_0) (fun _ h9 => h9) rfl dX0_end_49 ?_
      refine lv_iload_n (pc := 52) hx hb dX0_end_52 rfl (lv_at hl 1 rfl) ?_
      refine lv_bipush (pc := 53) (v := 8) hx hb dX0_end_53 (by decide) ?_
      refine lv_iadd (pc := 55) hx hb dX0_end_55 ?_
      refine b_re (nI_add P 8) ?_
      refine lv_dup2_11 (pc := 56) hx hb dX0_end_56 rfl rfl ?_
      refine b_iald (pc := 57) hx hb hK hP 1 0 rfl rfl (P + 8) rfl (by omega) (by decide) dX0_end_57 ?_
      refine lv_iconst (pc := 58) (v := 1) hx hb dX0_end_58 (by decide) ?_
      refine lv_iadd (pc := 59) hx hb dX0_end_59 ?_
      refine b_iast (pc := 60) hx hb hK hP hD hS 1 0 rfl rfl (P + 8) rfl (by omega) (by decide) dX0_end_60 (fun H locs hP hD hS => ?_)
      obtain ⟨f_6, ef_6⟩ : ∃ z : Nat → Int32, z = upd f (P + 8) ((f (P + 8)) + 1) := ⟨_, rfl⟩
      have hP : va_P D vwCl [(h, .inr (0, [.ref r])), (r, .inl (cI, 86, .inl f_6))] H := by rw [ef_6]; exact hP
      have hD : va_D A [(h, .inr (0, [.ref r])), (r, .inl (cI, 86, .inl f_6))] := by rw [ef_6]; exact hD
      refine lv_goto (pc := 61) (tgt := 129) hx hb dX0_end_61 (by decide) ?_
      subst ef_6
      subst hQ
      exact b_retV hx hb hr hlocks hS (by first | exact hP | (refine (b_eqP ?_ hP); simp only [h_end, h_end1, h_end2, if_pos c_1, if_pos c_2])) dX0_end_129
  · skip
    have c_1 : ¬ (((f 3) - (f (P + 1))) < (f 0)) := c_1
    refine lv_aload_n (pc := 24) hx hb dX0_end_24 rfl (lv_at hl 0 rfl) ?_
    refine va_get (pc := 25) (D := D) (ci := 0) (v := .ref r) (C := RX0) (T := TX0) (N := 1) hx hb hts hi_X0_end_X0 hown hK hP 0 rfl rfl 0 (by decide) (hts _ hw_X0_end_0) (fun _ h9 => h9) rfl dX0_end_25 ?_
    refine lv_iload_n (pc := 28) hx hb dX0_end_28 rfl (lv_at hl 1 rfl) ?_
    refine lv_bipush (pc := 29) (v := 9) hx hb dX0_end_29 (by decide) ?_
    refine lv_iadd (pc := 31) hx hb dX0_end_31 ?_
    refine b_re (nI_add P 9) ?_
    refine lv_dup2_11 (pc := 32) hx hb dX0_end_32 rfl rfl ?_
    refine b_iald (pc := 33) hx hb hK hP 1 0 rfl rfl (P + 9) rfl (by omega) (by decide) dX0_end_33 ?_
    refine lv_iconst (pc := 34) (v := 1) hx hb dX0_end_34 (by decide) ?_
    refine lv_iadd (pc := 35) hx hb dX0_end_35 ?_
    refine b_iast (pc := 36) hx hb hK hP hD hS 1 0 rfl rfl (P + 9) rfl (by omega) (by decide) dX0_end_36 (fun H locs hP hD hS => ?_)
    obtain ⟨f_7, ef_7⟩ : ∃ z : Nat → Int32, z = upd f (P + 9) ((f (P + 9)) + 1) := ⟨_, rfl⟩
    have hP : va_P D vwCl [(h, .inr (0, [.ref r])), (r, .inl (cI, 86, .inl f_7))] H := by rw [ef_7]; exact hP
    have hD : va_D A [(h, .inr (0, [.ref r])), (r, .inl (cI, 86, .inl f_7))] := by rw [ef_7]; exact hD
    refine lv_aload_n (pc := 37) hx hb dX0_end_37 rfl (lv_at hl 0 rfl) ?_
    refine va_get (pc := 38) (D := D) (ci := 0) (v := .ref r) (C := RX0) (T := TX0) (N := 1) hx hb hts hi_X0_end_X0 hown hK hP 0 rfl rfl 0 (by decide) (hts _ hw_X0_end_0) (fun _ h9 => h9) rfl dX0_end_38 ?_
    refine lv_iload_n (pc := 41) hx hb dX0_end_41 rfl (lv_at hl 1 rfl) ?_
    refine lv_iconst (pc := 42) (v := 3) hx hb dX0_end_42 (by decide) ?_
    refine lv_iadd (pc := 43) hx hb dX0_end_43 ?_
    refine b_re (nI_add P 3) ?_
    refine b_iald (pc := 44) hx hb hK hP 1 0 rfl rfl (P + 3) rfl (by omega) (by decide) dX0_end_44 ?_
    refine lv_if_ne (pc := 45) (tgt := 64) hx hb dX0_end_45 (by decide) (fun c_8 => ?_) (fun c_8 => ?_)
    · skip
      have c_8 : ¬ ((f_7 (P + 3)) = 0) := c_8
      refine lv_aload_n (pc := 64) hx hb dX0_end_64 rfl (lv_at hl 0 rfl) ?_
      refine va_get (pc := 65) (D := D) (ci := 0) (v := .ref r) (C := RX0) (T := TX0) (N := 1) hx hb hts hi_X0_end_X0 hown hK hP 0 rfl rfl 0 (by decide) (hts _ hw_X0_end_0) (fun _ h9 => h9) rfl dX0_end_65 ?_
      refine lv_iload_n (pc := 68) hx hb dX0_end_68 rfl (lv_at hl 1 rfl) ?_
      refine lv_iconst (pc := 69) (v := 2) hx hb dX0_end_69 (by decide) ?_
      refine lv_iadd (pc := 70) hx hb dX0_end_70 ?_
      refine b_re (nI_add P 2) ?_
      refine b_iald (pc := 71) hx hb hK hP 1 0 rfl rfl (P + 2) rfl (by omega) (by decide) dX0_end_71 ?_
      refine lv_iconst (pc := 72) (v := 4) hx hb dX0_end_72 (by decide) ?_
      refine lv_icmp_ne (pc := 73) (tgt := 89) hx hb dX0_end_73 (by decide) (fun c_9 => ?_) (fun c_9 => ?_)
      · skip
        have c_9 : ¬ ((f_7 (P + 2)) = 4) := c_9
        refine lv_aload_n (pc := 89) hx hb dX0_end_89 rfl (lv_at hl 0 rfl) ?_
        refine va_get (pc := 90) (D := D) (ci := 0) (v := .ref r) (C := RX0) (T := TX0) (N := 1) hx hb hts hi_X0_end_X0 hown hK hP 0 rfl rfl 0 (by decide) (hts _ hw_X0_end_0) (fun _ h9 => h9) rfl dX0_end_90 ?_
        refine lv_iload_n (pc := 93) hx hb dX0_end_93 rfl (lv_at hl 1 rfl) ?_
        refine lv_iconst (pc := 94) (v := 2) hx hb dX0_end_94 (by decide) ?_
        refine lv_iadd (pc := 95) hx hb dX0_end_95 ?_
        refine b_re (nI_add P 2) ?_
        refine b_iald (pc := 96) hx hb hK hP 1 0 rfl rfl (P + 2) rfl (by omega) (by decide) dX0_end_96 ?_
        refine lv_bipush (pc := 97) (v := (-4)) hx hb dX0_end_97 (by decide) ?_
        refine lv_icmp_ne (pc := 99) (tgt := 116) hx hb dX0_end_99 (by decide) (fun c_10 => ?_) (fun c_10 => ?_)
        · skip
          have c_10 : ¬ ((f_7 (P + 2)) = (-4)) := c_10
          refine lv_aload_n (pc := 116) hx hb dX0_end_116 rfl (lv_at hl 0 rfl) ?_
          refine va_get (pc := 117) (D := D) (ci := 0) (v := .ref r) (C := RX0) (T := TX0) (N := 1) hx hb hts hi_X0_end_X0 hown hK hP 0 rfl rfl 0 (by decide) (hts _ hw_X0_end_0) (fun _ h9 => h9) rfl dX0_end_117 ?_
          refine lv_iload_n (pc := 120) hx hb dX0_end_120 rfl (lv_at hl 1 rfl) ?_
          refine lv_bipush (pc := 121) (v := 7) hx hb dX0_end_121 (by decide) ?_
          refine lv_iadd (pc := 123) hx hb dX0_end_123 ?_
          refine b_re (nI_add P 7) ?_
          refine lv_dup2_11 (pc := 124) hx hb dX0_end_124 rfl rfl ?_
          refine b_iald (pc := 125) hx hb hK hP 1 0 rfl rfl (P + 7) rfl (by omega) (by decide) dX0_end_125 ?_
          refine lv_iconst (pc := 126) (v := 1) hx hb dX0_end_126 (by decide) ?_
          refine lv_iadd (pc := 127) hx hb dX0_end_127 ?_
          refine b_iast (pc := 128) hx hb hK hP hD hS 1 0 rfl rfl (P + 7) rfl (by omega) (by decide) dX0_end_128 (fun H locs hP hD hS => ?_)
          obtain ⟨f_11, ef_11⟩ : ∃ z : Nat → Int32, z = upd f_7 (P + 7) ((f_7 (P + 7)) + 1) := ⟨_, rfl⟩
          have hP : va_P D vwCl [(h, .inr (0, [.ref r])), (r, .inl (cI, 86, .inl f_11))] H := by rw [ef_11]; exact hP
          have hD : va_D A [(h, .inr (0, [.ref r])), (r, .inl (cI, 86, .inl f_11))] := by rw [ef_11]; exact hD
          subst ef_7
          subst ef_11
          subst hQ
          exact b_retV hx hb hr hlocks hS (by first | exact hP | (refine (b_eqP ?_ hP); simp only [h_end, h_end1, h_end2, if_neg c_1, if_neg c_8, if_neg c_9, if_neg c_10])) dX0_end_129
        · skip
          have c_10 : (f_7 (P + 2)) = (-4) := c_10
          refine lv_aload_n (pc := 102) hx hb dX0_end_102 rfl (lv_at hl 0 rfl) ?_
          refine lv_iload_n (pc := 103) hx hb dX0_end_103 rfl (lv_at hl 1 rfl) ?_
          refine lv_bipush (pc := 104) (v := 6) hx hb dX0_end_104 (by decide) ?_
          refine b_cV (pc := 106) (w1 := [(h, .inr (0, [.ref r])), (r, .inl (cI, 86, .inl (h_come f_7 P 6)))]) (va_runV (As := [.int (nI P), .int 6]) (rest := []) ⟨hx, hb, hml, hown, hts⟩ (c_X0_comeThrough l D cI cC cZ cG tb lo hi H.size h r f_7 P 6 (by omega) (by omega)) (cwV 2 hts gX0_end_X0_comeThrough rfl rfl rfl hy_X0_comeThrough ⟨Nat.le_of_ble_eq_true rfl, Nat.le_of_ble_eq_true rfl⟩) (b_pWV (wc := [(h, .inr (0, [.ref r])), (r, .inl (cI, 86, .inl f_7))]) hK hP hD (b_Xok_X tb lo hi) [0, 1] rfl (by decide) rfl (b_Xc hX hD hS hA [0, 1] rfl) (ci := 0) (q0 := 0) rfl rfl) rfl rfl hl.1 rfl (lv_room (Nat.le_of_ble_eq_true rfl)) dX0_end_106 ⟨Nat.zero_le _, Nat.zero_le _⟩) hP hD hS hA [0, 1] rfl rfl (fun H locs hP hD hS => ?_)
          have hP : va_P D vwCl [(h, .inr (0, [.ref r])), (r, .inl (cI, 86, .inl (h_come f_7 P 6)))] H := hP
          have hD : va_D A [(h, .inr (0, [.ref r])), (r, .inl (cI, 86, .inl (h_come f_7 P 6)))] := hD
          refine lv_aload_n (pc := 109) hx hb dX0_end_109 rfl (lv_at hl 0 rfl) ?_
          refine b_cV (pc := 110) (w1 := [(h, .inr (0, [.ref r])), (r, .inl (cI, 86, .inl (h_less (h_come f_7 P 6))))]) (va_runV (As := []) (rest := []) ⟨hx, hb, hml, hown, hts⟩ (c_X0_oneLessInside l D cI cC cZ cG tb lo hi H.size h r (h_come f_7 P 6)) (cwV 0 hts gX0_end_X0_oneLessInside rfl rfl rfl hy_X0_oneLessInside ⟨Nat.le_of_ble_eq_true rfl, Nat.le_of_ble_eq_true rfl⟩) (b_pWV (wc := [(h, .inr (0, [.ref r])), (r, .inl (cI, 86, .inl (h_come f_7 P 6)))]) hK hP hD (b_Xok_X tb lo hi) [0, 1] rfl (by decide) rfl (b_Xc hX hD hS hA [0, 1] rfl) (ci := 0) (q0 := 0) rfl rfl) rfl rfl hl.1 rfl (lv_room (Nat.le_of_ble_eq_true rfl)) dX0_end_110 ⟨Nat.zero_le _, Nat.zero_le _⟩) hP hD hS hA [0, 1] rfl rfl (fun H locs hP hD hS => ?_)
          have hP : va_P D vwCl [(h, .inr (0, [.ref r])), (r, .inl (cI, 86, .inl (h_less (h_come f_7 P 6))))] H := hP
          have hD : va_D A [(h, .inr (0, [.ref r])), (r, .inl (cI, 86, .inl (h_less (h_come f_7 P 6))))] := hD
          refine lv_goto (pc := 113) (tgt := 129) hx hb dX0_end_113 (by decide) ?_
          subst ef_7
          subst hQ
          exact b_retV hx hb hr hlocks hS (by first | exact hP | (refine (b_eqP ?_ hP); simp only [h_end, h_end1, h_end2, if_neg c_1, if_neg c_8, if_neg c_9, if_pos c_10])) dX0_end_129
      · skip
        have c_9 : (f_7 (P + 2)) = 4 := c_9
        refine lv_aload_n (pc := 76) hx hb dX0_end_76 rfl (lv_at hl 0 rfl) ?_
        refine lv_iload_n (pc := 77) hx hb dX0_end_77 rfl (lv_at hl 1 rfl) ?_
        refine lv_iconst (pc := 78) (v := 5) hx hb dX0_end_78 (by decide) ?_
        refine b_cV (pc := 79) (w1 := [(h, .inr (0, [.ref r])), (r, .inl (cI, 86, .inl (h_come f_7 P 5)))]) (va_runV (As := [.int (nI P), .int 5]) (rest := []) ⟨hx, hb, hml, hown, hts⟩ (c_X0_comeThrough l D cI cC cZ cG tb lo hi H.size h r f_7 P 5 (by omega) (by omega)) (cwV 2 hts gX0_end_X0_comeThrough rfl rfl rfl hy_X0_comeThrough ⟨Nat.le_of_ble_eq_true rfl, Nat.le_of_ble_eq_true rfl⟩) (b_pWV (wc := [(h, .inr (0, [.ref r])), (r, .inl (cI, 86, .inl f_7))]) hK hP hD (b_Xok_X tb lo hi) [0, 1] rfl (by decide) rfl (b_Xc hX hD hS hA [0, 1] rfl) (ci := 0) (q0 := 0) rfl rfl) rfl rfl hl.1 rfl (lv_room (Nat.le_of_ble_eq_true rfl)) dX0_end_79 ⟨Nat.zero_le _, Nat.zero_le _⟩) hP hD hS hA [0, 1] rfl rfl (fun H locs hP hD hS => ?_)
        have hP : va_P D vwCl [(h, .inr (0, [.ref r])), (r, .inl (cI, 86, .inl (h_come f_7 P 5)))] H := hP
        have hD : va_D A [(h, .inr (0, [.ref r])), (r, .inl (cI, 86, .inl (h_come f_7 P 5)))] := hD
        refine lv_aload_n (pc := 82) hx hb dX0_end_82 rfl (lv_at hl 0 rfl) ?_
        refine b_cV (pc := 83) (w1 := [(h, .inr (0, [.ref r])), (r, .inl (cI, 86, .inl (h_more (h_come f_7 P 5))))]) (va_runV (As := []) (rest := []) ⟨hx, hb, hml, hown, hts⟩ (c_X0_oneMoreInside l D cI cC cZ cG tb lo hi H.size h r (h_come f_7 P 5)) (cwV 0 hts gX0_end_X0_oneMoreInside rfl rfl rfl hy_X0_oneMoreInside ⟨Nat.le_of_ble_eq_true rfl, Nat.le_of_ble_eq_true rfl⟩) (b_pWV (wc := [(h, .inr (0, [.ref r])), (r, .inl (cI, 86, .inl (h_come f_7 P 5)))]) hK hP hD (b_Xok_X tb lo hi) [0, 1] rfl (by decide) rfl (b_Xc hX hD hS hA [0, 1] rfl) (ci := 0) (q0 := 0) rfl rfl) rfl rfl hl.1 rfl (lv_room (Nat.le_of_ble_eq_true rfl)) dX0_end_83 ⟨Nat.zero_le _, Nat.zero_le _⟩) hP hD hS hA [0, 1] rfl rfl (fun H locs hP hD hS => ?_)
        have hP : va_P D vwCl [(h, .inr (0, [.ref r])), (r, .inl (cI, 86, .inl (h_more (h_come f_7 P 5))))] H := hP
        have hD : va_D A [(h, .inr (0, [.ref r])), (r, .inl (cI, 86, .inl (h_more (h_come f_7 P 5))))] := hD
        refine lv_goto (pc := 86) (tgt := 129) hx hb dX0_end_86 (by decide) ?_
        subst ef_7
        subst hQ
        exact b_retV hx hb hr hlocks hS (by first | exact hP | (refine (b_eqP ?_ hP); simp only [h_end, h_end1, h_end2, if_neg c_1, if_neg c_8, if_pos c_9])) dX0_end_129
    · skip
      have c_8 : (f_7 (P + 3)) = 0 := c_8
      refine lv_aload_n (pc := 48) hx hb dX0_end_48 rfl (lv_at hl 0 rfl) ?_
      refine va_get (pc := 49) (D := D) (ci := 0) (v := .ref r) (C := RX0) (T := TX0) (N := 1) hx hb hts hi_X0_end_X0 hown hK hP 0 rfl rfl 0 (by decide) (hts _ hw_X0_end_0) (fun _ h9 => h9) rfl dX0_end_49 ?_
      refine lv_iload_n (pc := 52) hx hb dX0_end_52 rfl (lv_at hl 1 rfl) ?_
      refine lv_bipush (pc := 53) (v := 8) hx hb dX0_end_53 (by decide) ?_
      refine lv_iadd (pc := 55) hx hb dX0_end_55 ?_
      refine b_re (nI_add P 8) ?_
      refine lv_dup2_11 (pc := 56) hx hb dX0_end_56 rfl rfl ?_
      refine b_iald (pc := 57) hx hb hK hP 1 0 rfl rfl (P + 8) rfl (by omega) (by decide) dX0_end_57 ?_
      refine lv_iconst (pc := 58) (v := 1) hx hb dX0_end_58 (by decide) ?_
      refine lv_iadd (pc := 59) hx hb dX0_end_59 ?_
      refine b_iast (pc := 60) hx hb hK hP hD hS 1 0 rfl rfl (P + 8) rfl (by omega) (by decide) dX0_end_60 (fun H locs hP hD hS => ?_)
      obtain ⟨f_12, ef_12⟩ : ∃ z : Nat → Int32, z = upd f_7 (P + 8) ((f_7 (P + 8)) + 1) := ⟨_, rfl⟩
      have hP : va_P D vwCl [(h, .inr (0, [.ref r])), (r, .inl (cI, 86, .inl f_12))] H := by rw [ef_12]; exact hP
      have hD : va_D A [(h, .inr (0, [.ref r])), (r, .inl (cI, 86, .inl f_12))] := by rw [ef_12]; exact hD
      refine lv_goto (pc := 61) (tgt := 129) hx hb dX0_end_61 (by decide) ?_
      subst ef_7
      subst ef_12
      subst hQ
      exact b_retV hx hb hr hlocks hS (by first | exact hP | (refine (b_eqP ?_ hP); simp only [h_end, h_end1, h_end2, if_neg c_1, if_pos c_8])) dX0_end_129
theorem hw_X0_begin_0 : (.fieldLink RX0 11 "BeamTurnstiles$Hall" "row" "[I" : Cond) ∈ wsX0_begin := by decide +kernel
theorem hi_X0_begin_X0 : ∀ w ∈ wsX00, w ∈ wsX0_begin := by decide +kernel
set_option maxHeartbeats 4000000 in
set_option maxRecDepth 100000 in
/-- Hall.begin -/
theorem c_X0_begin (l : Launch) (D : va_G) (cI cC cZ cG : ClassId) (tb lo hi : Nat) (sz : Nat) (h : Nat) (r : Nat) (f : Nat → Int32) (P : Nat) (hp : P + 13 ≤ 86) : Met l yX0_begin wsX0_begin ({ frames := 0, cells := 0, slots := 0, locals := 0 } : Room) (b_W D (b_T cI cC cZ cG) (b_X tb lo hi) [(h, .inr (0, [.ref r])), (r, .inl (cI, 86, .inl f))] sz [.ref h, .int (nI P)]) (b_Qv D [(h, .inr (0, [.ref r])), (r, .inl (cI, 86, .inl (h_begin f P)))] (va_A [(h, .inr (0, [.ref r])), (r, .inl (cI, 86, .inl f))] sz)) 0 0 (va_A [(h, .inr (0, [.ref r])), (r, .inl (cI, 86, .inl f))] sz) := by
  refine b_enterW (Qc := fun A => b_Qv D [(h, .inr (0, [.ref r])), (r, .inl (cI, 86, .inl (h_begin f P)))] A) (cc := cX0_begin) (maxL := 2) (ret := none) (by decide) rfl (Nat.le_of_ble_eq_true rfl) ?_
  intro p e s m below meth c ls A hx hb hr hml hown hts hlocks hname hP hK hD hA hS hX hl Q hQ
  have hown : s.vm.findClass RX0 = some m.cls := hown
  have hl : lv_has ls 2 [(0, .ref h), (1, .int (nI P))] := hl
  refine lv_aload_n (pc := 0) hx hb dX0_begin_0 rfl (lv_at hl 0 rfl) ?_
  refine va_get (pc := 1) (D := D) (ci := 0) (v := .ref r) (C := RX0) (T := TX0) (N := 1) hx hb hts hi_X0_begin_X0 hown hK hP 0 rfl rfl 0 (by decide) (hts _ hw_X0_begin_0) (fun _ h9 => h9) rfl dX0_begin_1 ?_
  refine lv_iload_n (pc := 4) hx hb dX0_begin_4 rfl (lv_at hl 1 rfl) ?_
  refine lv_iconst (pc := 5) (v := 1) hx hb dX0_begin_5 (by decide) ?_
  refine lv_iadd (pc := 6) hx hb dX0_begin_6 ?_
  refine b_re (nI_add P 1) ?_
  refine lv_aload_n (pc := 7) hx hb dX0_begin_7 rfl (lv_at hl 0 rfl) ?_
  refine va_get (pc := 8) (D := D) (ci := 0) (v := .ref r) (C := RX0) (T := TX0) (N := 1) hx hb hts hi_X0_begin_X0 hown hK hP 0 rfl rfl 0 (by decide) (hts _ hw_X0_begin_0) (fun _ h9 => h9) rfl dX0_begin_8 ?_
  refine lv_iconst (pc := 11) (v := 3) hx hb dX0_begin_11 (by decide) ?_
  refine b_iald (pc := 12) hx hb hK hP 1 0 rfl rfl 3 rfl (by omega) (by decide) dX0_begin_12 ?_
  refine b_iast (pc := 13) hx hb hK hP hD hS 1 0 rfl rfl (P + 1) rfl (by omega) (by decide) dX0_begin_13 (fun H locs hP hD hS => ?_)
  obtain ⟨f_1, ef_1⟩ : ∃ z : Nat → Int32, z = upd f (P + 1) (f 3) := ⟨_, rfl⟩
  have hP : va_P D vwCl [(h, .inr (0, [.ref r])), (r, .inl (cI, 86, .inl f_1))] H := by rw [ef_1]; exact hP
  have hD : va_D A [(h, .inr (0, [.ref r])), (r, .inl (cI, 86, .inl f_1))] := by rw [ef_1]; exact hD
  refine lv_aload_n (pc := 14) hx hb dX0_begin_14 rfl (lv_at hl 0 rfl) ?_
  refine va_get (pc := 15) (D := D) (ci := 0) (v := .ref r) (C := RX0) (T := TX0) (N := 1) hx hb hts hi_X0_begin_X0 hown hK hP 0 rfl rfl 0 (by decide) (hts _ hw_X0_begin_0) (fun _ h9 => h9) rfl dX0_begin_15 ?_
  refine lv_iload_n (pc := 18) hx hb dX0_begin_18 rfl (lv_at hl 1 rfl) ?_
  refine lv_iconst (pc := 19) (v := 2) hx hb dX0_begin_19 (by decide) ?_
  refine lv_iadd (pc := 20) hx hb dX0_begin_20 ?_
  refine b_re (nI_add P 2) ?_
  refine lv_iconst (pc := 21) (v := 0) hx hb dX0_begin_21 (by decide) ?_
  refine b_iast (pc := 22) hx hb hK hP hD hS 1 0 rfl rfl (P + 2) rfl (by omega) (by decide) dX0_begin_22 (fun H locs hP hD hS => ?_)
  obtain ⟨f_2, ef_2⟩ : ∃ z : Nat → Int32, z = upd f_1 (P + 2) 0 := ⟨_, rfl⟩
  have hP : va_P D vwCl [(h, .inr (0, [.ref r])), (r, .inl (cI, 86, .inl f_2))] H := by rw [ef_2]; exact hP
  have hD : va_D A [(h, .inr (0, [.ref r])), (r, .inl (cI, 86, .inl f_2))] := by rw [ef_2]; exact hD
  refine lv_aload_n (pc := 23) hx hb dX0_begin_23 rfl (lv_at hl 0 rfl) ?_
  refine va_get (pc := 24) (D := D) (ci := 0) (v := .ref r) (C := RX0) (T := TX0) (N := 1) hx hb hts hi_X0_begin_X0 hown hK hP 0 rfl rfl 0 (by decide) (hts _ hw_X0_begin_0) (fun _ h9 => h9) rfl dX0_begin_24 ?_
  refine lv_iload_n (pc := 27) hx hb dX0_begin_27 rfl (lv_at hl 1 rfl) ?_
  refine lv_iconst (pc := 28) (v := 3) hx hb dX0_begin_28 (by decide) ?_
  refine lv_iadd (pc := 29) hx hb dX0_begin_29 ?_
  refine b_re (nI_add P 3) ?_
  refine lv_iconst (pc := 30) (v := 1) hx hb dX0_begin_30 (by decide) ?_
  refine b_iast (pc := 31) hx hb hK hP hD hS 1 0 rfl rfl (P + 3) rfl (by omega) (by decide) dX0_begin_31 (fun H locs hP hD hS => ?_)
  obtain ⟨f_3, ef_3⟩ : ∃ z : Nat → Int32, z = upd f_2 (P + 3) 1 := ⟨_, rfl⟩
  have hP : va_P D vwCl [(h, .inr (0, [.ref r])), (r, .inl (cI, 86, .inl f_3))] H := by rw [ef_3]; exact hP
  have hD : va_D A [(h, .inr (0, [.ref r])), (r, .inl (cI, 86, .inl f_3))] := by rw [ef_3]; exact hD
  subst ef_1
  subst ef_2
  subst ef_3
  subst hQ
  exact b_retV hx hb hr hlocks hS (by first | exact hP | (refine (b_eqP ?_ hP); simp only [h_begin])) dX0_begin_32
theorem hw_X0_hasRoomFor_0 : (.fieldLink RX0 11 "BeamTurnstiles$Hall" "row" "[I" : Cond) ∈ wsX0_hasRoomFor := by decide +kernel
theorem hi_X0_hasRoomFor_X0 : ∀ w ∈ wsX00, w ∈ wsX0_hasRoomFor := by decide +kernel
theorem hw_X0_hasRoomFor_2 : (.constant RX0 42 (99999) : Cond) ∈ wsX0_hasRoomFor := by decide +kernel
set_option maxHeartbeats 4000000 in
set_option maxRecDepth 100000 in
theorem c_X0_hasRoomFor (l : Launch) (D : va_G) (cI cC cZ cG : ClassId) (h : Nat) (r : Nat) (f : Nat → Int32) (t : Int32) : Met l yX0_hasRoomFor wsX0_hasRoomFor ({ frames := 0, cells := 0, slots := 0, locals := 0 } : Room) (b_R D (b_T cI cC cZ cG) [(h, .inr (0, [.ref r])), (r, .inl (cI, 86, .inl f))] [.ref h, .int t]) (vp_Si (fun r => r = b_i (¬ 99999 < f 3 + t))) 0 0 (fun _ => False) := by
  refine b_enterR (cc := cX0_hasRoomFor) (maxL := 2) (ret := (some .boolean)) (by decide) rfl (Nat.le_of_ble_eq_true rfl) ?_
  intro p e s m below meth c ls hx hb hr hml hown hts hlocks hP hK hl Q hQ
  have hown : s.vm.findClass RX0 = some m.cls := hown
  have hl : lv_has ls 2 [(0, .ref h), (1, .int t)] := hl
  refine lv_aload_n (pc := 0) hx hb dX0_hasRoomFor_0 rfl (lv_at hl 0 rfl) ?_
  refine va_get (pc := 1) (D := D) (ci := 0) (v := .ref r) (C := RX0) (T := TX0) (N := 1) hx hb hts hi_X0_hasRoomFor_X0 hown hK hP 0 rfl rfl 0 (by decide) (hts _ hw_X0_hasRoomFor_0) (fun _ h9 => h9) rfl dX0_hasRoomFor_1 ?_
  refine lv_iconst (pc := 4) (v := 3) hx hb dX0_hasRoomFor_4 (by decide) ?_
  refine b_iald (pc := 5) hx hb hK hP 1 0 rfl rfl 3 rfl (by omega) (by decide) dX0_hasRoomFor_5 ?_
  refine lv_iload_n (pc := 6) hx hb dX0_hasRoomFor_6 rfl (lv_at hl 1 rfl) ?_
  refine lv_iadd (pc := 7) hx hb dX0_hasRoomFor_7 ?_
  refine lv_ldc (pc := 8) hx hb hown (hts _ hw_X0_hasRoomFor_2) dX0_hasRoomFor_8 ?_
  refine lv_icmp_gt (pc := 10) (tgt := 17) hx hb dX0_hasRoomFor_10 (by decide) (fun c_1 => ?_) (fun c_1 => ?_)
  · skip
    have c_1 : 99999 < ((f 3) + t) := c_1
    refine lv_iconst (pc := 17) (v := 0) hx hb dX0_hasRoomFor_17 (by decide) ?_
    subst hQ
    exact b_retRZ hx hb hr hlocks rfl ((b_i_f (by first | assumption | (intro h9; exact absurd h9.1 (by assumption)) | (intro h9; exact h9.2 (by assumption)) | (intro h9; exact absurd (by assumption) h9))).symm) dX0_hasRoomFor_18
  · skip
    have c_1 : ¬ (99999 < ((f 3) + t)) := c_1
    refine lv_iconst (pc := 13) (v := 1) hx hb dX0_hasRoomFor_13 (by decide) ?_
    refine lv_goto (pc := 14) (tgt := 18) hx hb dX0_hasRoomFor_14 (by decide) ?_
    subst hQ
    exact b_retRZ hx hb hr hlocks rfl ((b_i_t (by first | assumption | (refine ⟨?_, ?_⟩ <;> assumption))).symm) dX0_hasRoomFor_18
theorem hw_X0_goBy_0 : (.fieldLink RX0 11 "BeamTurnstiles$Hall" "row" "[I" : Cond) ∈ wsX0_goBy := by decide +kernel
theorem hi_X0_goBy_X0 : ∀ w ∈ wsX00, w ∈ wsX0_goBy := by decide +kernel
set_option maxHeartbeats 4000000 in
set_option maxRecDepth 100000 in
theorem c_X0_goBy (l : Launch) (D : va_G) (cI cC cZ cG : ClassId) (tb lo hi : Nat) (sz : Nat) (h : Nat) (r : Nat) (f : Nat → Int32) (t : Int32) : Met l yX0_goBy wsX0_goBy ({ frames := 0, cells := 0, slots := 0, locals := 0 } : Room) (b_W D (b_T cI cC cZ cG) (b_X tb lo hi) [(h, .inr (0, [.ref r])), (r, .inl (cI, 86, .inl f))] sz [.ref h, .int t]) (b_Qv D [(h, .inr (0, [.ref r])), (r, .inl (cI, 86, .inl (h_goBy f t)))] (va_A [(h, .inr (0, [.ref r])), (r, .inl (cI, 86, .inl f))] sz)) 0 0 (va_A [(h, .inr (0, [.ref r])), (r, .inl (cI, 86, .inl f))] sz) := by
  refine b_enterW (Qc := fun A => b_Qv D [(h, .inr (0, [.ref r])), (r, .inl (cI, 86, .inl (h_goBy f t)))] A) (cc := cX0_goBy) (maxL := 2) (ret := none) (by decide) rfl (Nat.le_of_ble_eq_true rfl) ?_
  intro p e s m below meth c ls A hx hb hr hml hown hts hlocks hname hP hK hD hA hS hX hl Q hQ
  have hown : s.vm.findClass RX0 = some m.cls := hown
  have hl : lv_has ls 2 [(0, .ref h), (1, .int t)] := hl
  refine lv_aload_n (pc := 0) hx hb dX0_goBy_0 rfl (lv_at hl 0 rfl) ?_
  refine va_get (pc := 1) (D := D) (ci := 0) (v := .ref r) (C := RX0) (T := TX0) (N := 1) hx hb hts hi_X0_goBy_X0 hown hK hP 0 rfl rfl 0 (by decide) (hts _ hw_X0_goBy_0) (fun _ h9 => h9) rfl dX0_goBy_1 ?_
  refine lv_iconst (pc := 4) (v := 3) hx hb dX0_goBy_4 (by decide) ?_
  refine lv_dup2_11 (pc := 5) hx hb dX0_goBy_5 rfl rfl ?_
  refine b_iald (pc := 6) hx hb hK hP 1 0 rfl rfl 3 rfl (by omega) (by decide) dX0_goBy_6 ?_
  refine lv_iload_n (pc := 7) hx hb dX0_goBy_7 rfl (lv_at hl 1 rfl) ?_
  refine lv_iadd (pc := 8) hx hb dX0_goBy_8 ?_
  refine b_iast (pc := 9) hx hb hK hP hD hS 1 0 rfl rfl 3 rfl (by omega) (by decide) dX0_goBy_9 (fun H locs hP hD hS => ?_)
  obtain ⟨f_1, ef_1⟩ : ∃ z : Nat → Int32, z = upd f 3 ((f 3) + t) := ⟨_, rfl⟩
  have hP : va_P D vwCl [(h, .inr (0, [.ref r])), (r, .inl (cI, 86, .inl f_1))] H := by rw [ef_1]; exact hP
  have hD : va_D A [(h, .inr (0, [.ref r])), (r, .inl (cI, 86, .inl f_1))] := by rw [ef_1]; exact hD
  subst ef_1
  subst hQ
  exact b_retV hx hb hr hlocks hS (by first | exact hP | (refine (b_eqP ?_ hP); simp only [h_goBy])) dX0_goBy_10
theorem hw_X0_isUnderWay_0 : (.fieldLink RX0 11 "BeamTurnstiles$Hall" "row" "[I" : Cond) ∈ wsX0_isUnderWay := by decide +kernel
theorem hi_X0_isUnderWay_X0 : ∀ w ∈ wsX00, w ∈ wsX0_isUnderWay := by decide +kernel
set_option maxHeartbeats 4000000 in
set_option maxRecDepth 100000 in
theorem c_X0_isUnderWay (l : Launch) (D : va_G) (cI cC cZ cG : ClassId) (h : Nat) (r : Nat) (f : Nat → Int32) (g : Nat) (hg : g < 6) : Met l yX0_isUnderWay wsX0_isUnderWay ({ frames := 1, cells := 0, slots := 0, locals := 20 } : Room) (b_R D (b_T cI cC cZ cG) [(h, .inr (0, [.ref r])), (r, .inl (cI, 86, .inl f))] [.ref h, .int (nI g)]) (vp_Si (fun r => r = b_i (¬ f (8 + g * 13 + 0) = 0))) 0 0 (fun _ => False) := by
  refine b_enterR (cc := cX0_isUnderWay) (maxL := 2) (ret := (some .boolean)) (by decide) rfl (Nat.le_of_ble_eq_true rfl) ?_
  intro p e s m below meth c ls hx hb hr hml hown hts hlocks hP hK hl Q hQ
  have hown : s.vm.findClass RX0 = some m.cls := hown
  have hl : lv_has ls 2 [(0, .ref h), (1, .int (nI g))] := hl
  refine lv_aload_n (pc := 0) hx hb dX0_isUnderWay_0 rfl (lv_at hl 0 rfl) ?_
  refine va_get (pc := 1) (D := D) (ci := 0) (v := .ref r) (C := RX0) (T := TX0) (N := 1) hx hb hts hi_X0_isUnderWay_X0 hown hK hP 0 rfl rfl 0 (by decide) (hts _ hw_X0_isUnderWay_0) (fun _ h9 => h9) rfl dX0_isUnderWay_1 ?_
  refine lv_iload_n (pc := 4) hx hb dX0_isUnderWay_4 rfl (lv_at hl 1 rfl) ?_
  refine b_cR (pc := 5) (va_runS (As := [.int (nI g)]) (rest := [.ref r]) ⟨hx, hb, hml, hown, hts⟩ (c_X0_partOf l D cI cC cZ cG g) (va_cwS 1 hts gX0_isUnderWay_X0_partOf rfl rfl rfl hyS_X0_partOf ⟨Nat.le_of_ble_eq_true rfl, Nat.le_of_ble_eq_true rfl⟩) (b_pRS (wc := []) hK hP [] rfl) rfl rfl hl.1 rfl (lv_room (Nat.le_of_ble_eq_true rfl)) dX0_isUnderWay_5 ⟨Nat.zero_le _, Nat.zero_le _⟩) ?_
  refine lv_iconst (pc := 8) (v := 0) hx hb dX0_isUnderWay_8 (by decide) ?_
  refine lv_iadd (pc := 9) hx hb dX0_isUnderWay_9 ?_
  refine b_re (nI_add (8 + g * 13) 0) ?_
  refine b_iald (pc := 10) hx hb hK hP 1 0 rfl rfl (8 + g * 13 + 0) rfl (by omega) (by decide) dX0_isUnderWay_10 ?_
  refine lv_if_eq (pc := 11) (tgt := 18) hx hb dX0_isUnderWay_11 (by decide) (fun c_1 => ?_) (fun c_1 => ?_)
  · skip
    have c_1 : (f (8 + g * 13 + 0)) = 0 := c_1
    refine lv_iconst (pc := 18) (v := 0) hx hb dX0_isUnderWay_18 (by decide) ?_
    subst hQ
    exact b_retRZ hx hb hr hlocks rfl ((b_i_f (by first | assumption | (intro h9; exact absurd h9.1 (by assumption)) | (intro h9; exact h9.2 (by assumption)) | (intro h9; exact absurd (by assumption) h9))).symm) dX0_isUnderWay_19
  · skip
    have c_1 : ¬ ((f (8 + g * 13 + 0)) = 0) := c_1
    refine lv_iconst (pc := 14) (v := 1) hx hb dX0_isUnderWay_14 (by decide) ?_
    refine lv_goto (pc := 15) (tgt := 19) hx hb dX0_isUnderWay_15 (by decide) ?_
    subst hQ
    exact b_retRZ hx hb hr hlocks rfl ((b_i_t (by first | assumption | (refine ⟨?_, ?_⟩ <;> assumption))).symm) dX0_isUnderWay_19
theorem hw_X0_isSure_0 : (.fieldLink RX0 11 "BeamTurnstiles$Hall" "row" "[I" : Cond) ∈ wsX0_isSure := by decide +kernel
theorem hi_X0_isSure_X0 : ∀ w ∈ wsX00, w ∈ wsX0_isSure := by decide +kernel
set_option maxHeartbeats 4000000 in
set_option maxRecDepth 100000 in
theorem c_X0_isSure (l : Launch) (D : va_G) (cI cC cZ cG : ClassId) (h : Nat) (r : Nat) (f : Nat → Int32) (g : Nat) (hg : g < 6) : Met l yX0_isSure wsX0_isSure ({ frames := 1, cells := 0, slots := 0, locals := 20 } : Room) (b_R D (b_T cI cC cZ cG) [(h, .inr (0, [.ref r])), (r, .inl (cI, 86, .inl f))] [.ref h, .int (nI g)]) (vp_Si (fun r => r = b_i (¬ f (8 + g * 13 + 3) = 0))) 0 0 (fun _ => False) := by
  refine b_enterR (cc := cX0_isSure) (maxL := 2) (ret := (some .boolean)) (by decide) rfl (Nat.le_of_ble_eq_true rfl) ?_
  intro p e s m below meth c ls hx hb hr hml hown hts hlocks hP hK hl Q hQ
  have hown : s.vm.findClass RX0 = some m.cls := hown
  have hl : lv_has ls 2 [(0, .ref h), (1, .int (nI g))] := hl
  refine lv_aload_n (pc := 0) hx hb dX0_isSure_0 rfl (lv_at hl 0 rfl) ?_
  refine va_get (pc := 1) (D := D) (ci := 0) (v := .ref r) (C := RX0) (T := TX0) (N := 1) hx hb hts hi_X0_isSure_X0 hown hK hP 0 rfl rfl 0 (by decide) (hts _ hw_X0_isSure_0) (fun _ h9 => h9) rfl dX0_isSure_1 ?_
  refine lv_iload_n (pc := 4) hx hb dX0_isSure_4 rfl (lv_at hl 1 rfl) ?_
  refine b_cR (pc := 5) (va_runS (As := [.int (nI g)]) (rest := [.ref r]) ⟨hx, hb, hml, hown, hts⟩ (c_X0_partOf l D cI cC cZ cG g) (va_cwS 1 hts gX0_isSure_X0_partOf rfl rfl rfl hyS_X0_partOf ⟨Nat.le_of_ble_eq_true rfl, Nat.le_of_ble_eq_true rfl⟩) (b_pRS (wc := []) hK hP [] rfl) rfl rfl hl.1 rfl (lv_room (Nat.le_of_ble_eq_true rfl)) dX0_isSure_5 ⟨Nat.zero_le _, Nat.zero_le _⟩) ?_
  refine lv_iconst (pc := 8) (v := 3) hx hb dX0_isSure_8 (by decide) ?_
  refine lv_iadd (pc := 9) hx hb dX0_isSure_9 ?_
  refine b_re (nI_add (8 + g * 13) 3) ?_
  refine b_iald (pc := 10) hx hb hK hP 1 0 rfl rfl (8 + g * 13 + 3) rfl (by omega) (by decide) dX0_isSure_10 ?_
  refine lv_if_eq (pc := 11) (tgt := 18) hx hb dX0_isSure_11 (by decide) (fun c_1 => ?_) (fun c_1 => ?_)
  · skip
    have c_1 : (f (8 + g * 13 + 3)) = 0 := c_1
    refine lv_iconst (pc := 18) (v := 0) hx hb dX0_isSure_18 (by decide) ?_
    subst hQ
    exact b_retRZ hx hb hr hlocks rfl ((b_i_f (by first | assumption | (intro h9; exact absurd h9.1 (by assumption)) | (intro h9; exact h9.2 (by assumption)) | (intro h9; exact absurd (by assumption) h9))).symm) dX0_isSure_19
  · skip
    have c_1 : ¬ ((f (8 + g * 13 + 3)) = 0) := c_1
    refine lv_iconst (pc := 14) (v := 1) hx hb dX0_isSure_14 (by decide) ?_
    refine lv_goto (pc := 15) (tgt := 19) hx hb dX0_isSure_15 (by decide) ?_
    subst hQ
    exact b_retRZ hx hb hr hlocks rfl ((b_i_t (by first | assumption | (refine ⟨?_, ?_⟩ <;> assumption))).symm) dX0_isSure_19
theorem hw_X0_placeOf_0 : (.fieldLink RX0 11 "BeamTurnstiles$Hall" "row" "[I" : Cond) ∈ wsX0_placeOf := by decide +kernel
theorem hi_X0_placeOf_X0 : ∀ w ∈ wsX00, w ∈ wsX0_placeOf := by decide +kernel
set_option maxHeartbeats 4000000 in
set_option maxRecDepth 100000 in
theorem c_X0_placeOf (l : Launch) (D : va_G) (cI cC cZ cG : ClassId) (h : Nat) (r : Nat) (f : Nat → Int32) (g : Nat) (hg : g < 6) : Met l yX0_placeOf wsX0_placeOf ({ frames := 1, cells := 0, slots := 0, locals := 20 } : Room) (b_R D (b_T cI cC cZ cG) [(h, .inr (0, [.ref r])), (r, .inl (cI, 86, .inl f))] [.ref h, .int (nI g)]) (vp_Si (fun r => r = f (8 + g * 13 + 2))) 0 0 (fun _ => False) := by
  refine b_enterR (cc := cX0_placeOf) (maxL := 2) (ret := (some .int)) (by decide) rfl (Nat.le_of_ble_eq_true rfl) ?_
  intro p e s m below meth c ls hx hb hr hml hown hts hlocks hP hK hl Q hQ
  have hown : s.vm.findClass RX0 = some m.cls := hown
  have hl : lv_has ls 2 [(0, .ref h), (1, .int (nI g))] := hl
  refine lv_aload_n (pc := 0) hx hb dX0_placeOf_0 rfl (lv_at hl 0 rfl) ?_
  refine va_get (pc := 1) (D := D) (ci := 0) (v := .ref r) (C := RX0) (T := TX0) (N := 1) hx hb hts hi_X0_placeOf_X0 hown hK hP 0 rfl rfl 0 (by decide) (hts _ hw_X0_placeOf_0) (fun _ h9 => h9) rfl dX0_placeOf_1 ?_
  refine lv_iload_n (pc := 4) hx hb dX0_placeOf_4 rfl (lv_at hl 1 rfl) ?_
  refine b_cR (pc := 5) (va_runS (As := [.int (nI g)]) (rest := [.ref r]) ⟨hx, hb, hml, hown, hts⟩ (c_X0_partOf l D cI cC cZ cG g) (va_cwS 1 hts gX0_placeOf_X0_partOf rfl rfl rfl hyS_X0_partOf ⟨Nat.le_of_ble_eq_true rfl, Nat.le_of_ble_eq_true rfl⟩) (b_pRS (wc := []) hK hP [] rfl) rfl rfl hl.1 rfl (lv_room (Nat.le_of_ble_eq_true rfl)) dX0_placeOf_5 ⟨Nat.zero_le _, Nat.zero_le _⟩) ?_
  refine lv_iconst (pc := 8) (v := 2) hx hb dX0_placeOf_8 (by decide) ?_
  refine lv_iadd (pc := 9) hx hb dX0_placeOf_9 ?_
  refine b_re (nI_add (8 + g * 13) 2) ?_
  refine b_iald (pc := 10) hx hb hK hP 1 0 rfl rfl (8 + g * 13 + 2) rfl (by omega) (by decide) dX0_placeOf_10 ?_
  subst hQ
  exact b_retR hx hb hr hlocks (by first | rfl | (simp only [])) dX0_placeOf_11
theorem hw_X0_ticksUnderWay_0 : (.fieldLink RX0 11 "BeamTurnstiles$Hall" "row" "[I" : Cond) ∈ wsX0_ticksUnderWay := by decide +kernel
theorem hi_X0_ticksUnderWay_X0 : ∀ w ∈ wsX00, w ∈ wsX0_ticksUnderWay := by decide +kernel
set_option maxHeartbeats 4000000 in
set_option maxRecDepth 100000 in
theorem c_X0_ticksUnderWay (l : Launch) (D : va_G) (cI cC cZ cG : ClassId) (h : Nat) (r : Nat) (f : Nat → Int32) (g : Nat) (hg : g < 6) : Met l yX0_ticksUnderWay wsX0_ticksUnderWay ({ frames := 1, cells := 0, slots := 0, locals := 20 } : Room) (b_R D (b_T cI cC cZ cG) [(h, .inr (0, [.ref r])), (r, .inl (cI, 86, .inl f))] [.ref h, .int (nI g)]) (vp_Si (fun r => r = f 3 - f (8 + g * 13 + 1))) 0 0 (fun _ => False) := by
  refine b_enterR (cc := cX0_ticksUnderWay) (maxL := 2) (ret := (some .int)) (by decide) rfl (Nat.le_of_ble_eq_true rfl) ?_
  intro p e s m below meth c ls hx hb hr hml hown hts hlocks hP hK hl Q hQ
  have hown : s.vm.findClass RX0 = some m.cls := hown
  have hl : lv_has ls 2 [(0, .ref h), (1, .int (nI g))] := hl
  refine lv_aload_n (pc := 0) hx hb dX0_ticksUnderWay_0 rfl (lv_at hl 0 rfl) ?_
  refine va_get (pc := 1) (D := D) (ci := 0) (v := .ref r) (C := RX0) (T := TX0) (N := 1) hx hb hts hi_X0_ticksUnderWay_X0 hown hK hP 0 rfl rfl 0 (by decide) (hts _ hw_X0_ticksUnderWay_0) (fun _ h9 => h9) rfl dX0_ticksUnderWay_1 ?_
  refine lv_iconst (pc := 4) (v := 3) hx hb dX0_ticksUnderWay_4 (by decide) ?_
  refine b_iald (pc := 5) hx hb hK hP 1 0 rfl rfl 3 rfl (by omega) (by decide) dX0_ticksUnderWay_5 ?_
  refine lv_aload_n (pc := 6) hx hb dX0_ticksUnderWay_6 rfl (lv_at hl 0 rfl) ?_
  refine va_get (pc := 7) (D := D) (ci := 0) (v := .ref r) (C := RX0) (T := TX0) (N := 1) hx hb hts hi_X0_ticksUnderWay_X0 hown hK hP 0 rfl rfl 0 (by decide) (hts _ hw_X0_ticksUnderWay_0) (fun _ h9 => h9) rfl dX0_ticksUnderWay_7 ?_
  refine lv_iload_n (pc := 10) hx hb dX0_ticksUnderWay_10 rfl (lv_at hl 1 rfl) ?_
  refine b_cR (pc := 11) (va_runS (As := [.int (nI g)]) (rest := [.ref r, .int (f 3)]) ⟨hx, hb, hml, hown, hts⟩ (c_X0_partOf l D cI cC cZ cG g) (va_cwS 1 hts gX0_ticksUnderWay_X0_partOf rfl rfl rfl hyS_X0_partOf ⟨Nat.le_of_ble_eq_true rfl, Nat.le_of_ble_eq_true rfl⟩) (b_pRS (wc := []) hK hP [] rfl) rfl rfl hl.1 rfl (lv_room (Nat.le_of_ble_eq_true rfl)) dX0_ticksUnderWay_11 ⟨Nat.zero_le _, Nat.zero_le _⟩) ?_
  refine lv_iconst (pc := 14) (v := 1) hx hb dX0_ticksUnderWay_14 (by decide) ?_
  refine lv_iadd (pc := 15) hx hb dX0_ticksUnderWay_15 ?_
  refine b_re (nI_add (8 + g * 13) 1) ?_
  refine b_iald (pc := 16) hx hb hK hP 1 0 rfl rfl (8 + g * 13 + 1) rfl (by omega) (by decide) dX0_ticksUnderWay_16 ?_
  refine lv_isub (pc := 17) hx hb dX0_ticksUnderWay_17 ?_
  subst hQ
  exact b_retR hx hb hr hlocks (by first | rfl | (simp only [])) dX0_ticksUnderWay_18
theorem hw_X0_isBlocked_0 : (.fieldLink RX0 11 "BeamTurnstiles$Hall" "row" "[I" : Cond) ∈ wsX0_isBlocked := by decide +kernel
theorem hi_X0_isBlocked_X0 : ∀ w ∈ wsX00, w ∈ wsX0_isBlocked := by decide +kernel
set_option maxHeartbeats 4000000 in
set_option maxRecDepth 100000 in
theorem c_X0_isBlocked (l : Launch) (D : va_G) (cI cC cZ cG : ClassId) (h : Nat) (r : Nat) (f : Nat → Int32) (g : Nat) (hg : g < 6) : Met l yX0_isBlocked wsX0_isBlocked ({ frames := 2, cells := 0, slots := 0, locals := 41 } : Room) (b_R D (b_T cI cC cZ cG) [(h, .inr (0, [.ref r])), (r, .inl (cI, 86, .inl f))] [.ref h, .int (nI g)]) (vp_Si (fun r => r = b_i (h_blk f g))) 0 0 (fun _ => False) := by
  refine b_enterR (cc := cX0_isBlocked) (maxL := 2) (ret := (some .boolean)) (by decide) rfl (Nat.le_of_ble_eq_true rfl) ?_
  intro p e s m below meth c ls hx hb hr hml hown hts hlocks hP hK hl Q hQ
  have hown : s.vm.findClass RX0 = some m.cls := hown
  have hl : lv_has ls 2 [(0, .ref h), (1, .int (nI g))] := hl
  refine lv_aload_n (pc := 0) hx hb dX0_isBlocked_0 rfl (lv_at hl 0 rfl) ?_
  refine lv_iload_n (pc := 1) hx hb dX0_isBlocked_1 rfl (lv_at hl 1 rfl) ?_
  refine b_cR (pc := 2) (va_runV (As := [.int (nI g)]) (rest := []) ⟨hx, hb, hml, hown, hts⟩ (c_X0_isUnderWay l D cI cC cZ cG h r f g (by omega)) (cwV 1 hts gX0_isBlocked_X0_isUnderWay rfl rfl rfl hy_X0_isUnderWay ⟨Nat.le_of_ble_eq_true rfl, Nat.le_of_ble_eq_true rfl⟩) (b_pRV (wc := [(h, .inr (0, [.ref r])), (r, .inl (cI, 86, .inl f))]) hK hP [0, 1] rfl (ci := 0) (q0 := 0) rfl rfl) rfl rfl hl.1 rfl (lv_room (Nat.le_of_ble_eq_true rfl)) dX0_isBlocked_2 ⟨Nat.zero_le _, Nat.zero_le _⟩) ?_
  refine lv_if_eq (pc := 5) (tgt := 26) hx hb dX0_isBlocked_5 (by decide) (fun c_1 => ?_) (fun c_1 => ?_)
  · skip
    have c_1 : ¬ (¬ f (8 + g * 13 + 0) = 0) := b_i_0.mp c_1
    refine lv_iconst (pc := 26) (v := 0) hx hb dX0_isBlocked_26 (by decide) ?_
    subst hQ
    exact b_retRZ hx hb hr hlocks rfl ((b_i_f (by first | assumption | (intro h9; exact absurd h9.1 (by assumption)) | (intro h9; exact h9.2 (by assumption)) | (intro h9; exact absurd (by assumption) h9))).symm) dX0_isBlocked_27
  · skip
    have c_1 : ¬ f (8 + g * 13 + 0) = 0 := Classical.not_not.mp (fun h9 => c_1 (b_i_0.mpr h9))
    refine lv_aload_n (pc := 8) hx hb dX0_isBlocked_8 rfl (lv_at hl 0 rfl) ?_
    refine lv_iload_n (pc := 9) hx hb dX0_isBlocked_9 rfl (lv_at hl 1 rfl) ?_
    refine b_cR (pc := 10) (va_runV (As := [.int (nI g)]) (rest := []) ⟨hx, hb, hml, hown, hts⟩ (c_X0_ticksUnderWay l D cI cC cZ cG h r f g (by omega)) (cwV 1 hts gX0_isBlocked_X0_ticksUnderWay rfl rfl rfl hy_X0_ticksUnderWay ⟨Nat.le_of_ble_eq_true rfl, Nat.le_of_ble_eq_true rfl⟩) (b_pRV (wc := [(h, .inr (0, [.ref r])), (r, .inl (cI, 86, .inl f))]) hK hP [0, 1] rfl (ci := 0) (q0 := 0) rfl rfl) rfl rfl hl.1 rfl (lv_room (Nat.le_of_ble_eq_true rfl)) dX0_isBlocked_10 ⟨Nat.zero_le _, Nat.zero_le _⟩) ?_
    refine lv_aload_n (pc := 13) hx hb dX0_isBlocked_13 rfl (lv_at hl 0 rfl) ?_
    refine va_get (pc := 14) (D := D) (ci := 0) (v := .ref r) (C := RX0) (T := TX0) (N := 1) hx hb hts hi_X0_isBlocked_X0 hown hK hP 0 rfl rfl 0 (by decide) (hts _ hw_X0_isBlocked_0) (fun _ h9 => h9) rfl dX0_isBlocked_14 ?_
    refine lv_iconst (pc := 17) (v := 0) hx hb dX0_isBlocked_17 (by decide) ?_
    refine b_iald (pc := 18) hx hb hK hP 1 0 rfl rfl 0 rfl (by omega) (by decide) dX0_isBlocked_18 ?_
    refine lv_icmp_lt (pc := 19) (tgt := 26) hx hb dX0_isBlocked_19 (by decide) (fun c_2 => ?_) (fun c_2 => ?_)
    · skip
      have c_2 : (f 3 - f (8 + g * 13 + 1)) < (f 0) := c_2
      refine lv_iconst (pc := 26) (v := 0) hx hb dX0_isBlocked_26 (by decide) ?_
      subst hQ
      exact b_retRZ hx hb hr hlocks rfl ((b_i_f (by first | assumption | (intro h9; exact absurd h9.1 (by assumption)) | (intro h9; exact h9.2 (by assumption)) | (intro h9; exact absurd (by assumption) h9))).symm) dX0_isBlocked_27
    · skip
      have c_2 : ¬ ((f 3 - f (8 + g * 13 + 1)) < (f 0)) := c_2
      refine lv_iconst (pc := 22) (v := 1) hx hb dX0_isBlocked_22 (by decide) ?_
      refine lv_goto (pc := 23) (tgt := 27) hx hb dX0_isBlocked_23 (by decide) ?_
      subst hQ
      exact b_retRZ hx hb hr hlocks rfl ((b_i_t (by first | assumption | (refine ⟨?_, ?_⟩ <;> assumption))).symm) dX0_isBlocked_27
set_option maxHeartbeats 4000000 in
set_option maxRecDepth 100000 in
theorem c_X0_blockedMask (l : Launch) (D : va_G) (cI cC cZ cG : ClassId) (h : Nat) (r : Nat) (f : Nat → Int32) : Met l yX0_blockedMask wsX0_blockedMask ({ frames := 3, cells := 0, slots := 0, locals := 62 } : Room) (b_R D (b_T cI cC cZ cG) [(h, .inr (0, [.ref r])), (r, .inl (cI, 86, .inl f))] [.ref h]) (vp_Si (fun r => r = h_bm f 6)) 0 0 (fun _ => False) := by
  refine b_enterR (cc := cX0_blockedMask) (maxL := 3) (ret := (some .int)) (by decide) rfl (Nat.le_of_ble_eq_true rfl) ?_
  intro p e s m below meth c ls hx hb hr hml hown hts hlocks hP hK hl Q hQ
  have hown : s.vm.findClass RX0 = some m.cls := hown
  have hl : lv_has ls 3 [(0, .ref h)] := hl
  refine lv_iconst (pc := 0) (v := 0) hx hb dX0_blockedMask_0 (by decide) ?_
  refine lv_istore_n (pc := 1) (lv' := [(1, .int 0), (0, .ref h)]) hx hb dX0_blockedMask_1 rfl hl (by decide) rfl (fun ls hl => ?_)
  refine lv_iconst (pc := 2) (v := 0) hx hb dX0_blockedMask_2 (by decide) ?_
  refine lv_istore_n (pc := 3) (lv' := [(2, .int 0), (1, .int 0), (0, .ref h)]) hx hb dX0_blockedMask_3 rfl hl (by decide) rfl (fun ls hl => ?_)
  have loop_4 : ∀ (n : Nat) (i : Nat) (mk : Int32), (i ≤ 6) → (mk = h_bm f i) → 6 - i < n → ∀ (ls : Array Slot), lv_has ls 3 [(2, .int (nI i)), (1, .int mk), (0, .ref h)] → W p l e ({ frames := 3, cells := 0, slots := 0, locals := 62 } : Room) s m ([.ref h] : List Value).toArray below meth c s.heap [] 0 0 Q (F0 m 4 ls []) := by
    intro n
    induction n with
    | zero => intro i mk hi hm hn ls hl; exact absurd hn (Nat.not_lt_zero _)
    | succ n ih_4 =>
      intro i mk hi hm hn ls hl
      refine lv_iload_n (pc := 4) hx hb dX0_blockedMask_4 rfl (lv_at hl 0 rfl) ?_
      refine lv_bipush (pc := 5) (v := 6) hx hb dX0_blockedMask_5 (by decide) ?_
      refine lv_icmp_ge (pc := 7) (tgt := 30) hx hb dX0_blockedMask_7 (by decide) (fun c_1 => ?_) (fun c_1 => ?_)
      · skip
        have c_1 : 6 ≤ i := (nI_leI (a := 6) (b := i) (by omega) (by omega)).mp c_1
        refine lv_iload_n (pc := 30) hx hb dX0_blockedMask_30 rfl (lv_at hl 1 rfl) ?_
        subst hQ
        exact b_retR hx hb hr hlocks (by have e9 : i = 6 := (by omega); rw [hm, e9]) dX0_blockedMask_31
      · skip
        have c_1 : ¬ (6 ≤ i) := fun h9 => c_1 ((nI_leI (a := 6) (b := i) (by omega) (by omega)).mpr h9)
        refine lv_aload_n (pc := 10) hx hb dX0_blockedMask_10 rfl (lv_at hl 2 rfl) ?_
        refine lv_iload_n (pc := 11) hx hb dX0_blockedMask_11 rfl (lv_at hl 0 rfl) ?_
        refine b_cR (pc := 12) (va_runV (As := [.int (nI i)]) (rest := []) ⟨hx, hb, hml, hown, hts⟩ (c_X0_isBlocked l D cI cC cZ cG h r f i (by omega)) (cwV 1 hts gX0_blockedMask_X0_isBlocked rfl rfl rfl hy_X0_isBlocked ⟨Nat.le_of_ble_eq_true rfl, Nat.le_of_ble_eq_true rfl⟩) (b_pRV (wc := [(h, .inr (0, [.ref r])), (r, .inl (cI, 86, .inl f))]) hK hP [0, 1] rfl (ci := 0) (q0 := 0) rfl rfl) rfl rfl hl.1 rfl (lv_room (Nat.le_of_ble_eq_true rfl)) dX0_blockedMask_12 ⟨Nat.zero_le _, Nat.zero_le _⟩) ?_
        refine lv_if_eq (pc := 15) (tgt := 24) hx hb dX0_blockedMask_15 (by decide) (fun c_2 => ?_) (fun c_2 => ?_)
        · skip
          have c_2 : ¬ (h_blk f i) := b_i_0.mp c_2
          refine lv_iinc (pc := 24) (v := nI (i + 1)) (lv' := [(2, .int (nI (i + 1))), (1, .int mk), (0, .ref h)]) hx hb dX0_blockedMask_24 hl (k := 0) rfl (nI_add i 1) (by decide) rfl (fun ls hl => ?_)
          refine lv_goto (pc := 27) (tgt := 4) hx hb dX0_blockedMask_27 (by decide) ?_
          exact ih_4 (i + 1) mk (by omega) (by simp only [h_bm, hm, if_neg c_2]) (by omega) ls (lv_sub hl [0, 1, 2] rfl)
        · skip
          have c_2 : h_blk f i := Classical.not_not.mp (fun h9 => c_2 (b_i_0.mpr h9))
          refine lv_iload_n (pc := 18) hx hb dX0_blockedMask_18 rfl (lv_at hl 1 rfl) ?_
          refine lv_iconst (pc := 19) (v := 1) hx hb dX0_blockedMask_19 (by decide) ?_
          refine lv_iload_n (pc := 20) hx hb dX0_blockedMask_20 rfl (lv_at hl 0 rfl) ?_
          refine lv_ishl (pc := 21) hx hb dX0_blockedMask_21 ?_
          refine lv_ior (pc := 22) hx hb dX0_blockedMask_22 ?_
          refine lv_istore_n (pc := 23) (lv' := [(1, .int (mk ||| (1 <<< ((nI i) &&& 31)))), (2, .int (nI i)), (0, .ref h)]) hx hb dX0_blockedMask_23 rfl hl (by decide) rfl (fun ls hl => ?_)
          refine lv_iinc (pc := 24) (v := nI (i + 1)) (lv' := [(2, .int (nI (i + 1))), (1, .int (mk ||| (1 <<< ((nI i) &&& 31)))), (0, .ref h)]) hx hb dX0_blockedMask_24 hl (k := 1) rfl (nI_add i 1) (by decide) rfl (fun ls hl => ?_)
          refine lv_goto (pc := 27) (tgt := 4) hx hb dX0_blockedMask_27 (by decide) ?_
          exact ih_4 (i + 1) (mk ||| (1 <<< ((nI i) &&& 31))) (by omega) (by simp only [h_bm, hm, if_pos c_2]) (by omega) ls (lv_sub hl [0, 1, 2] rfl)
  exact loop_4 7 0 0 (Nat.zero_le 6) rfl (by omega) ls (lv_sub hl [0, 1, 2] rfl)
set_option maxHeartbeats 4000000 in
set_option maxRecDepth 100000 in
theorem c_X0_underWayMask (l : Launch) (D : va_G) (cI cC cZ cG : ClassId) (h : Nat) (r : Nat) (f : Nat → Int32) : Met l yX0_underWayMask wsX0_underWayMask ({ frames := 2, cells := 0, slots := 0, locals := 41 } : Room) (b_R D (b_T cI cC cZ cG) [(h, .inr (0, [.ref r])), (r, .inl (cI, 86, .inl f))] [.ref h]) (vp_Si (fun r => r = h_um f 6)) 0 0 (fun _ => False) := by
  refine b_enterR (cc := cX0_underWayMask) (maxL := 3) (ret := (some .int)) (by decide) rfl (Nat.le_of_ble_eq_true rfl) ?_
  intro p e s m below meth c ls hx hb hr hml hown hts hlocks hP hK hl Q hQ
  have hown : s.vm.findClass RX0 = some m.cls := hown
  have hl : lv_has ls 3 [(0, .ref h)] := hl
  refine lv_iconst (pc := 0) (v := 0) hx hb dX0_underWayMask_0 (by decide) ?_
  refine lv_istore_n (pc := 1) (lv' := [(1, .int 0), (0, .ref h)]) hx hb dX0_underWayMask_1 rfl hl (by decide) rfl (fun ls hl => ?_)
  refine lv_iconst (pc := 2) (v := 0) hx hb dX0_underWayMask_2 (by decide) ?_
  refine lv_istore_n (pc := 3) (lv' := [(2, .int 0), (1, .int 0), (0, .ref h)]) hx hb dX0_underWayMask_3 rfl hl (by decide) rfl (fun ls hl => ?_)
  have loop_4 : ∀ (n : Nat) (i : Nat) (mk : Int32), (i ≤ 6) → (mk = h_um f i) → 6 - i < n → ∀ (ls : Array Slot), lv_has ls 3 [(2, .int (nI i)), (1, .int mk), (0, .ref h)] → W p l e ({ frames := 2, cells := 0, slots := 0, locals := 41 } : Room) s m ([.ref h] : List Value).toArray below meth c s.heap [] 0 0 Q (F0 m 4 ls []) := by
    intro n
    induction n with
    | zero => intro i mk hi hm hn ls hl; exact absurd hn (Nat.not_lt_zero _)
    | succ n ih_4 =>
      intro i mk hi hm hn ls hl
      refine lv_iload_n (pc := 4) hx hb dX0_underWayMask_4 rfl (lv_at hl 0 rfl) ?_
      refine lv_bipush (pc := 5) (v := 6) hx hb dX0_underWayMask_5 (by decide) ?_
      refine lv_icmp_ge (pc := 7) (tgt := 30) hx hb dX0_underWayMask_7 (by decide) (fun c_1 => ?_) (fun c_1 => ?_)
      · skip
        have c_1 : 6 ≤ i := (nI_leI (a := 6) (b := i) (by omega) (by omega)).mp c_1
        refine lv_iload_n (pc := 30) hx hb dX0_underWayMask_30 rfl (lv_at hl 1 rfl) ?_
        subst hQ
        exact b_retR hx hb hr hlocks (by have e9 : i = 6 := (by omega); rw [hm, e9]) dX0_underWayMask_31
      · skip
        have c_1 : ¬ (6 ≤ i) := fun h9 => c_1 ((nI_leI (a := 6) (b := i) (by omega) (by omega)).mpr h9)
        refine lv_aload_n (pc := 10) hx hb dX0_underWayMask_10 rfl (lv_at hl 2 rfl) ?_
        refine lv_iload_n (pc := 11) hx hb dX0_underWayMask_11 rfl (lv_at hl 0 rfl) ?_
        refine b_cR (pc := 12) (va_runV (As := [.int (nI i)]) (rest := []) ⟨hx, hb, hml, hown, hts⟩ (c_X0_isUnderWay l D cI cC cZ cG h r f i (by omega)) (cwV 1 hts gX0_underWayMask_X0_isUnderWay rfl rfl rfl hy_X0_isUnderWay ⟨Nat.le_of_ble_eq_true rfl, Nat.le_of_ble_eq_true rfl⟩) (b_pRV (wc := [(h, .inr (0, [.ref r])), (r, .inl (cI, 86, .inl f))]) hK hP [0, 1] rfl (ci := 0) (q0 := 0) rfl rfl) rfl rfl hl.1 rfl (lv_room (Nat.le_of_ble_eq_true rfl)) dX0_underWayMask_12 ⟨Nat.zero_le _, Nat.zero_le _⟩) ?_
        refine lv_if_eq (pc := 15) (tgt := 24) hx hb dX0_underWayMask_15 (by decide) (fun c_2 => ?_) (fun c_2 => ?_)
        · skip
          have c_2 : ¬ (¬ f (8 + i * 13 + 0) = 0) := b_i_0.mp c_2
          refine lv_iinc (pc := 24) (v := nI (i + 1)) (lv' := [(2, .int (nI (i + 1))), (1, .int mk), (0, .ref h)]) hx hb dX0_underWayMask_24 hl (k := 0) rfl (nI_add i 1) (by decide) rfl (fun ls hl => ?_)
          refine lv_goto (pc := 27) (tgt := 4) hx hb dX0_underWayMask_27 (by decide) ?_
          exact ih_4 (i + 1) mk (by omega) (by simp only [h_um, hm, if_neg c_2]) (by omega) ls (lv_sub hl [0, 1, 2] rfl)
        · skip
          have c_2 : ¬ f (8 + i * 13 + 0) = 0 := Classical.not_not.mp (fun h9 => c_2 (b_i_0.mpr h9))
          refine lv_iload_n (pc := 18) hx hb dX0_underWayMask_18 rfl (lv_at hl 1 rfl) ?_
          refine lv_iconst (pc := 19) (v := 1) hx hb dX0_underWayMask_19 (by decide) ?_
          refine lv_iload_n (pc := 20) hx hb dX0_underWayMask_20 rfl (lv_at hl 0 rfl) ?_
          refine lv_ishl (pc := 21) hx hb dX0_underWayMask_21 ?_
          refine lv_ior (pc := 22) hx hb dX0_underWayMask_22 ?_
          refine lv_istore_n (pc := 23) (lv' := [(1, .int (mk ||| (1 <<< ((nI i) &&& 31)))), (2, .int (nI i)), (0, .ref h)]) hx hb dX0_underWayMask_23 rfl hl (by decide) rfl (fun ls hl => ?_)
          refine lv_iinc (pc := 24) (v := nI (i + 1)) (lv' := [(2, .int (nI (i + 1))), (1, .int (mk ||| (1 <<< ((nI i) &&& 31)))), (0, .ref h)]) hx hb dX0_underWayMask_24 hl (k := 1) rfl (nI_add i 1) (by decide) rfl (fun ls hl => ?_)
          refine lv_goto (pc := 27) (tgt := 4) hx hb dX0_underWayMask_27 (by decide) ?_
          exact ih_4 (i + 1) (mk ||| (1 <<< ((nI i) &&& 31))) (by omega) (by simp only [h_um, hm, if_pos c_2]) (by omega) ls (lv_sub hl [0, 1, 2] rfl)
  exact loop_4 7 0 0 (Nat.zero_le 6) rfl (by omega) ls (lv_sub hl [0, 1, 2] rfl)
theorem hw_X0_sumOfGates_0 : (.fieldLink RX0 11 "BeamTurnstiles$Hall" "row" "[I" : Cond) ∈ wsX0_sumOfGates := by decide +kernel
theorem hi_X0_sumOfGates_X0 : ∀ w ∈ wsX00, w ∈ wsX0_sumOfGates := by decide +kernel
set_option maxHeartbeats 4000000 in
set_option maxRecDepth 100000 in
theorem c_X0_sumOfGates (l : Launch) (D : va_G) (cI cC cZ cG : ClassId) (h : Nat) (r : Nat) (f : Nat → Int32) (w : Nat) (hw : w < 13) : Met l yX0_sumOfGates wsX0_sumOfGates ({ frames := 1, cells := 0, slots := 0, locals := 20 } : Room) (b_R D (b_T cI cC cZ cG) [(h, .inr (0, [.ref r])), (r, .inl (cI, 86, .inl f))] [.ref h, .int (nI w)]) (vp_Si (fun r => r = h_sum f w 6)) 0 0 (fun _ => False) := by
  refine b_enterR (cc := cX0_sumOfGates) (maxL := 4) (ret := (some .int)) (by decide) rfl (Nat.le_of_ble_eq_true rfl) ?_
  intro p e s m below meth c ls hx hb hr hml hown hts hlocks hP hK hl Q hQ
  have hown : s.vm.findClass RX0 = some m.cls := hown
  have hl : lv_has ls 4 [(0, .ref h), (1, .int (nI w))] := hl
  refine lv_iconst (pc := 0) (v := 0) hx hb dX0_sumOfGates_0 (by decide) ?_
  refine lv_istore_n (pc := 1) (lv' := [(2, .int 0), (0, .ref h), (1, .int (nI w))]) hx hb dX0_sumOfGates_1 rfl hl (by decide) rfl (fun ls hl => ?_)
  refine lv_iconst (pc := 2) (v := 0) hx hb dX0_sumOfGates_2 (by decide) ?_
  refine lv_istore_n (pc := 3) (lv' := [(3, .int 0), (2, .int 0), (0, .ref h), (1, .int (nI w))]) hx hb dX0_sumOfGates_3 rfl hl (by decide) rfl (fun ls hl => ?_)
  have loop_4 : ∀ (n : Nat) (i : Nat) (mk : Int32), (i ≤ 6) → (mk = h_sum f w i) → 6 - i < n → ∀ (ls : Array Slot), lv_has ls 4 [(3, .int (nI i)), (2, .int mk), (0, .ref h), (1, .int (nI w))] → W p l e ({ frames := 1, cells := 0, slots := 0, locals := 20 } : Room) s m ([.ref h, .int (nI w)] : List Value).toArray below meth c s.heap [] 0 0 Q (F0 m 4 ls []) := by
    intro n
    induction n with
    | zero => intro i mk hi hm hn ls hl; exact absurd hn (Nat.not_lt_zero _)
    | succ n ih_4 =>
      intro i mk hi hm hn ls hl
      refine lv_iload_n (pc := 4) hx hb dX0_sumOfGates_4 rfl (lv_at hl 0 rfl) ?_
      refine lv_bipush (pc := 5) (v := 6) hx hb dX0_sumOfGates_5 (by decide) ?_
      refine lv_icmp_ge (pc := 7) (tgt := 30) hx hb dX0_sumOfGates_7 (by decide) (fun c_1 => ?_) (fun c_1 => ?_)
      · skip
        have c_1 : 6 ≤ i := (nI_leI (a := 6) (b := i) (by omega) (by omega)).mp c_1
        refine lv_iload_n (pc := 30) hx hb dX0_sumOfGates_30 rfl (lv_at hl 1 rfl) ?_
        subst hQ
        exact b_retR hx hb hr hlocks (by have e9 : i = 6 := (by omega); rw [hm, e9]) dX0_sumOfGates_31
      · skip
        have c_1 : ¬ (6 ≤ i) := fun h9 => c_1 ((nI_leI (a := 6) (b := i) (by omega) (by omega)).mpr h9)
        refine lv_iload_n (pc := 10) hx hb dX0_sumOfGates_10 rfl (lv_at hl 1 rfl) ?_
        refine lv_aload_n (pc := 11) hx hb dX0_sumOfGates_11 rfl (lv_at hl 2 rfl) ?_
        refine va_get (pc := 12) (D := D) (ci := 0) (v := .ref r) (C := RX0) (T := TX0) (N := 1) hx hb hts hi_X0_sumOfGates_X0 hown hK hP 0 rfl rfl 0 (by decide) (hts _ hw_X0_sumOfGates_0) (fun _ h9 => h9) rfl dX0_sumOfGates_12 ?_
        refine lv_iload_n (pc := 15) hx hb dX0_sumOfGates_15 rfl (lv_at hl 0 rfl) ?_
        refine b_cR (pc := 16) (va_runS (As := [.int (nI i)]) (rest := [.ref r, .int mk]) ⟨hx, hb, hml, hown, hts⟩ (c_X0_partOf l D cI cC cZ cG i) (va_cwS 1 hts gX0_sumOfGates_X0_partOf rfl rfl rfl hyS_X0_partOf ⟨Nat.le_of_ble_eq_true rfl, Nat.le_of_ble_eq_true rfl⟩) (b_pRS (wc := []) hK hP [] rfl) rfl rfl hl.1 rfl (lv_room (Nat.le_of_ble_eq_true rfl)) dX0_sumOfGates_16 ⟨Nat.zero_le _, Nat.zero_le _⟩) ?_
        refine lv_iload_n (pc := 19) hx hb dX0_sumOfGates_19 rfl (lv_at hl 3 rfl) ?_
        refine lv_iadd (pc := 20) hx hb dX0_sumOfGates_20 ?_
        refine b_re (nI_add (8 + i * 13) w) ?_
        refine b_iald (pc := 21) hx hb hK hP 1 0 rfl rfl (8 + i * 13 + w) rfl (by omega) (by decide) dX0_sumOfGates_21 ?_
        refine lv_iadd (pc := 22) hx hb dX0_sumOfGates_22 ?_
        refine lv_istore_n (pc := 23) (lv' := [(2, .int (mk + (f (8 + i * 13 + w)))), (3, .int (nI i)), (0, .ref h), (1, .int (nI w))]) hx hb dX0_sumOfGates_23 rfl hl (by decide) rfl (fun ls hl => ?_)
        refine lv_iinc (pc := 24) (v := nI (i + 1)) (lv' := [(3, .int (nI (i + 1))), (2, .int (mk + (f (8 + i * 13 + w)))), (0, .ref h), (1, .int (nI w))]) hx hb dX0_sumOfGates_24 hl (k := 1) rfl (nI_add i 1) (by decide) rfl (fun ls hl => ?_)
        refine lv_goto (pc := 27) (tgt := 4) hx hb dX0_sumOfGates_27 (by decide) ?_
        exact ih_4 (i + 1) (mk + (f (8 + i * 13 + w))) (by omega) (by simp only [h_sum, hm]) (by omega) ls (lv_sub hl [0, 1, 2, 3] rfl)
  exact loop_4 7 0 0 (Nat.zero_le 6) rfl (by omega) ls (lv_sub hl [0, 1, 2, 3] rfl)
theorem hw_X0_passagesThrough_0 : (.fieldLink RX0 11 "BeamTurnstiles$Hall" "row" "[I" : Cond) ∈ wsX0_passagesThrough := by decide +kernel
theorem hi_X0_passagesThrough_X0 : ∀ w ∈ wsX00, w ∈ wsX0_passagesThrough := by decide +kernel
set_option maxHeartbeats 4000000 in
set_option maxRecDepth 100000 in
theorem c_X0_passagesThrough (l : Launch) (D : va_G) (cI cC cZ cG : ClassId) (h : Nat) (r : Nat) (f : Nat → Int32) (g : Nat) (hg : g < 6) : Met l yX0_passagesThrough wsX0_passagesThrough ({ frames := 1, cells := 0, slots := 0, locals := 20 } : Room) (b_R D (b_T cI cC cZ cG) [(h, .inr (0, [.ref r])), (r, .inl (cI, 86, .inl f))] [.ref h, .int (nI g)]) (vp_Si (fun r => r = f (8 + g * 13 + 5) + f (8 + g * 13 + 6))) 0 0 (fun _ => False) := by
  refine b_enterR (cc := cX0_passagesThrough) (maxL := 3) (ret := (some .int)) (by decide) rfl (Nat.le_of_ble_eq_true rfl) ?_
  intro p e s m below meth c ls hx hb hr hml hown hts hlocks hP hK hl Q hQ
  have hown : s.vm.findClass RX0 = some m.cls := hown
  have hl : lv_has ls 3 [(0, .ref h), (1, .int (nI g))] := hl
  refine lv_iload_n (pc := 0) hx hb dX0_passagesThrough_0 rfl (lv_at hl 1 rfl) ?_
  refine b_cR (pc := 1) (va_runS (As := [.int (nI g)]) (rest := []) ⟨hx, hb, hml, hown, hts⟩ (c_X0_partOf l D cI cC cZ cG g) (va_cwS 1 hts gX0_passagesThrough_X0_partOf rfl rfl rfl hyS_X0_partOf ⟨Nat.le_of_ble_eq_true rfl, Nat.le_of_ble_eq_true rfl⟩) (b_pRS (wc := []) hK hP [] rfl) rfl rfl hl.1 rfl (lv_room (Nat.le_of_ble_eq_true rfl)) dX0_passagesThrough_1 ⟨Nat.zero_le _, Nat.zero_le _⟩) ?_
  refine lv_istore_n (pc := 4) (lv' := [(2, .int (nI (8 + g * 13))), (0, .ref h), (1, .int (nI g))]) hx hb dX0_passagesThrough_4 rfl hl (by decide) rfl (fun ls hl => ?_)
  refine lv_aload_n (pc := 5) hx hb dX0_passagesThrough_5 rfl (lv_at hl 1 rfl) ?_
  refine va_get (pc := 6) (D := D) (ci := 0) (v := .ref r) (C := RX0) (T := TX0) (N := 1) hx hb hts hi_X0_passagesThrough_X0 hown hK hP 0 rfl rfl 0 (by decide) (hts _ hw_X0_passagesThrough_0) (fun _ h9 => h9) rfl dX0_passagesThrough_6 ?_
  refine lv_iload_n (pc := 9) hx hb dX0_passagesThrough_9 rfl (lv_at hl 0 rfl) ?_
  refine lv_iconst (pc := 10) (v := 5) hx hb dX0_passagesThrough_10 (by decide) ?_
  refine lv_iadd (pc := 11) hx hb dX0_passagesThrough_11 ?_
  refine b_re (nI_add (8 + g * 13) 5) ?_
  refine b_iald (pc := 12) hx hb hK hP 1 0 rfl rfl (8 + g * 13 + 5) rfl (by omega) (by decide) dX0_passagesThrough_12 ?_
  refine lv_aload_n (pc := 13) hx hb dX0_passagesThrough_13 rfl (lv_at hl 1 rfl) ?_
  refine va_get (pc := 14) (D := D) (ci := 0) (v := .ref r) (C := RX0) (T := TX0) (N := 1) hx hb hts hi_X0_passagesThrough_X0 hown hK hP 0 rfl rfl 0 (by decide) (hts _ hw_X0_passagesThrough_0) (fun _ h9 => h9) rfl dX0_passagesThrough_14 ?_
  refine lv_iload_n (pc := 17) hx hb dX0_passagesThrough_17 rfl (lv_at hl 0 rfl) ?_
  refine lv_bipush (pc := 18) (v := 6) hx hb dX0_passagesThrough_18 (by decide) ?_
  refine lv_iadd (pc := 20) hx hb dX0_passagesThrough_20 ?_
  refine b_re (nI_add (8 + g * 13) 6) ?_
  refine b_iald (pc := 21) hx hb hK hP 1 0 rfl rfl (8 + g * 13 + 6) rfl (by omega) (by decide) dX0_passagesThrough_21 ?_
  refine lv_iadd (pc := 22) hx hb dX0_passagesThrough_22 ?_
  subst hQ
  exact b_retR hx hb hr hlocks (by first | rfl | (simp only [])) dX0_passagesThrough_23
theorem hw_X0_tell_0_0 : (.fieldLink RX0 11 "BeamTurnstiles$Hall" "row" "[I" : Cond) ∈ wsX0_tell := by decide +kernel
theorem hi_X0_tell_0_X0 : ∀ w ∈ wsX00, w ∈ wsX0_tell := by decide +kernel
set_option maxHeartbeats 4000000 in
set_option maxRecDepth 100000 in
theorem c_X0_tell_0 (l : Launch) (D : va_G) (cI cC cZ cG : ClassId) (h : Nat) (r : Nat) (f : Nat → Int32) (g : Nat) (hg : g < 6) : Met l yX0_tell wsX0_tell ({ frames := 3, cells := 0, slots := 0, locals := 62 } : Room) (b_R D (b_T cI cC cZ cG) [(h, .inr (0, [.ref r])), (r, .inl (cI, 86, .inl f))] [.ref h, .int (nI g), .int (nI 0)]) (vp_Si (fun r => r = h_tell f g 0)) 0 0 (fun _ => False) := by
  refine b_enterR (cc := cX0_tell) (maxL := 3) (ret := (some .int)) (by decide) rfl (Nat.le_of_ble_eq_true rfl) ?_
  intro p e s m below meth c ls hx hb hr hml hown hts hlocks hP hK hl Q hQ
  have hown : s.vm.findClass RX0 = some m.cls := hown
  have hl : lv_has ls 3 [(0, .ref h), (1, .int (nI g)), (2, .int (nI 0))] := hl
  refine lv_iload_n (pc := 0) hx hb dX0_tell_0 rfl (lv_at hl 2 rfl) ?_
  refine lv_tableOut (pc := 1) (tgt := 125) hx hb dX0_tell_1 (by decide) (by decide) ?_
  refine lv_aload_n (pc := 125) hx hb dX0_tell_125 rfl (lv_at hl 0 rfl) ?_
  refine va_get (pc := 126) (D := D) (ci := 0) (v := .ref r) (C := RX0) (T := TX0) (N := 1) hx hb hts hi_X0_tell_0_X0 hown hK hP 0 rfl rfl 0 (by decide) (hts _ hw_X0_tell_0_0) (fun _ h9 => h9) rfl dX0_tell_126 ?_
  refine lv_iload_n (pc := 129) hx hb dX0_tell_129 rfl (lv_at hl 1 rfl) ?_
  refine b_cR (pc := 130) (va_runS (As := [.int (nI g)]) (rest := [.ref r]) ⟨hx, hb, hml, hown, hts⟩ (c_X0_partOf l D cI cC cZ cG g) (va_cwS 1 hts gX0_tell_X0_partOf rfl rfl rfl hyS_X0_partOf ⟨Nat.le_of_ble_eq_true rfl, Nat.le_of_ble_eq_true rfl⟩) (b_pRS (wc := []) hK hP [] rfl) rfl rfl hl.1 rfl (lv_room (Nat.le_of_ble_eq_true rfl)) dX0_tell_130 ⟨Nat.zero_le _, Nat.zero_le _⟩) ?_
  refine lv_iload_n (pc := 133) hx hb dX0_tell_133 rfl (lv_at hl 2 rfl) ?_
  refine lv_iadd (pc := 134) hx hb dX0_tell_134 ?_
  refine b_re (nI_add (8 + g * 13) 0) ?_
  refine b_iald (pc := 135) hx hb hK hP 1 0 rfl rfl (8 + g * 13 + 0) rfl (by omega) (by decide) dX0_tell_135 ?_
  subst hQ
  exact b_retR hx hb hr hlocks (by simp only [h_tell, (eq_false (by decide) : ((0 : Nat) = 1) = False), (eq_false (by decide) : ((0 : Nat) = 2) = False), (eq_false (by decide) : ((0 : Nat) = 3) = False), (eq_false (by decide) : ((0 : Nat) = 4) = False), if_true, if_false]) dX0_tell_136
theorem hw_X0_tell_1_0 : (.fieldLink RX0 11 "BeamTurnstiles$Hall" "row" "[I" : Cond) ∈ wsX0_tell := by decide +kernel
theorem hi_X0_tell_1_X0 : ∀ w ∈ wsX00, w ∈ wsX0_tell := by decide +kernel
set_option maxHeartbeats 4000000 in
set_option maxRecDepth 100000 in
theorem c_X0_tell_1 (l : Launch) (D : va_G) (cI cC cZ cG : ClassId) (h : Nat) (r : Nat) (f : Nat → Int32) (g : Nat) (hg : g < 6) : Met l yX0_tell wsX0_tell ({ frames := 3, cells := 0, slots := 0, locals := 62 } : Room) (b_R D (b_T cI cC cZ cG) [(h, .inr (0, [.ref r])), (r, .inl (cI, 86, .inl f))] [.ref h, .int (nI g), .int (nI 1)]) (vp_Si (fun r => r = h_tell f g 1)) 0 0 (fun _ => False) := by
  refine b_enterR (cc := cX0_tell) (maxL := 3) (ret := (some .int)) (by decide) rfl (Nat.le_of_ble_eq_true rfl) ?_
  intro p e s m below meth c ls hx hb hr hml hown hts hlocks hP hK hl Q hQ
  have hown : s.vm.findClass RX0 = some m.cls := hown
  have hl : lv_has ls 3 [(0, .ref h), (1, .int (nI g)), (2, .int (nI 1))] := hl
  refine lv_iload_n (pc := 0) hx hb dX0_tell_0 rfl (lv_at hl 2 rfl) ?_
  refine lv_tableIn (pc := 1) (tgt := 32) (off := 31) hx hb dX0_tell_1 (by decide) (by decide) (by decide) (by decide) ?_
  refine lv_aload_n (pc := 32) hx hb dX0_tell_32 rfl (lv_at hl 0 rfl) ?_
  refine lv_iload_n (pc := 33) hx hb dX0_tell_33 rfl (lv_at hl 1 rfl) ?_
  refine b_cR (pc := 34) (va_runV (As := [.int (nI g)]) (rest := []) ⟨hx, hb, hml, hown, hts⟩ (c_X0_isUnderWay l D cI cC cZ cG h r f g (by omega)) (cwV 1 hts gX0_tell_X0_isUnderWay rfl rfl rfl hy_X0_isUnderWay ⟨Nat.le_of_ble_eq_true rfl, Nat.le_of_ble_eq_true rfl⟩) (b_pRV (wc := [(h, .inr (0, [.ref r])), (r, .inl (cI, 86, .inl f))]) hK hP [0, 1] rfl (ci := 0) (q0 := 0) rfl rfl) rfl rfl hl.1 rfl (lv_room (Nat.le_of_ble_eq_true rfl)) dX0_tell_34 ⟨Nat.zero_le _, Nat.zero_le _⟩) ?_
  refine lv_if_eq (pc := 37) (tgt := 54) hx hb dX0_tell_37 (by decide) (fun c_1 => ?_) (fun c_1 => ?_)
  · skip
    have c_1 : ¬ (¬ f (8 + g * 13 + 0) = 0) := b_i_0.mp c_1
    refine lv_bipush (pc := 54) (v := (-6)) hx hb dX0_tell_54 (by decide) ?_
    subst hQ
    exact b_retR hx hb hr hlocks (by simp only [h_tell, (eq_true rfl : ((1 : Nat) = 1) = True), if_true, if_false, if_neg c_1]) dX0_tell_56
  · skip
    have c_1 : ¬ f (8 + g * 13 + 0) = 0 := Classical.not_not.mp (fun h9 => c_1 (b_i_0.mpr h9))
    refine lv_aload_n (pc := 40) hx hb dX0_tell_40 rfl (lv_at hl 0 rfl) ?_
    refine va_get (pc := 41) (D := D) (ci := 0) (v := .ref r) (C := RX0) (T := TX0) (N := 1) hx hb hts hi_X0_tell_1_X0 hown hK hP 0 rfl rfl 0 (by decide) (hts _ hw_X0_tell_1_0) (fun _ h9 => h9) rfl dX0_tell_41 ?_
    refine lv_iload_n (pc := 44) hx hb dX0_tell_44 rfl (lv_at hl 1 rfl) ?_
    refine b_cR (pc := 45) (va_runS (As := [.int (nI g)]) (rest := [.ref r]) ⟨hx, hb, hml, hown, hts⟩ (c_X0_partOf l D cI cC cZ cG g) (va_cwS 1 hts gX0_tell_X0_partOf rfl rfl rfl hyS_X0_partOf ⟨Nat.le_of_ble_eq_true rfl, Nat.le_of_ble_eq_true rfl⟩) (b_pRS (wc := []) hK hP [] rfl) rfl rfl hl.1 rfl (lv_room (Nat.le_of_ble_eq_true rfl)) dX0_tell_45 ⟨Nat.zero_le _, Nat.zero_le _⟩) ?_
    refine lv_iconst (pc := 48) (v := 1) hx hb dX0_tell_48 (by decide) ?_
    refine lv_iadd (pc := 49) hx hb dX0_tell_49 ?_
    refine b_re (nI_add (8 + g * 13) 1) ?_
    refine b_iald (pc := 50) hx hb hK hP 1 0 rfl rfl (8 + g * 13 + 1) rfl (by omega) (by decide) dX0_tell_50 ?_
    refine lv_goto (pc := 51) (tgt := 56) hx hb dX0_tell_51 (by decide) ?_
    subst hQ
    exact b_retR hx hb hr hlocks (by simp only [h_tell, (eq_true rfl : ((1 : Nat) = 1) = True), if_true, if_false, if_pos c_1]) dX0_tell_56
set_option maxHeartbeats 4000000 in
set_option maxRecDepth 100000 in
theorem c_X0_tell_2 (l : Launch) (D : va_G) (cI cC cZ cG : ClassId) (h : Nat) (r : Nat) (f : Nat → Int32) (g : Nat) (hg : g < 6) : Met l yX0_tell wsX0_tell ({ frames := 3, cells := 0, slots := 0, locals := 62 } : Room) (b_R D (b_T cI cC cZ cG) [(h, .inr (0, [.ref r])), (r, .inl (cI, 86, .inl f))] [.ref h, .int (nI g), .int (nI 2)]) (vp_Si (fun r => r = h_tell f g 2)) 0 0 (fun _ => False) := by
  refine b_enterR (cc := cX0_tell) (maxL := 3) (ret := (some .int)) (by decide) rfl (Nat.le_of_ble_eq_true rfl) ?_
  intro p e s m below meth c ls hx hb hr hml hown hts hlocks hP hK hl Q hQ
  have hown : s.vm.findClass RX0 = some m.cls := hown
  have hl : lv_has ls 3 [(0, .ref h), (1, .int (nI g)), (2, .int (nI 2))] := hl
  refine lv_iload_n (pc := 0) hx hb dX0_tell_0 rfl (lv_at hl 2 rfl) ?_
  refine lv_tableIn (pc := 1) (tgt := 57) (off := 56) hx hb dX0_tell_1 (by decide) (by decide) (by decide) (by decide) ?_
  refine lv_aload_n (pc := 57) hx hb dX0_tell_57 rfl (lv_at hl 0 rfl) ?_
  refine lv_iload_n (pc := 58) hx hb dX0_tell_58 rfl (lv_at hl 1 rfl) ?_
  refine b_cR (pc := 59) (va_runV (As := [.int (nI g)]) (rest := []) ⟨hx, hb, hml, hown, hts⟩ (c_X0_isUnderWay l D cI cC cZ cG h r f g (by omega)) (cwV 1 hts gX0_tell_X0_isUnderWay rfl rfl rfl hy_X0_isUnderWay ⟨Nat.le_of_ble_eq_true rfl, Nat.le_of_ble_eq_true rfl⟩) (b_pRV (wc := [(h, .inr (0, [.ref r])), (r, .inl (cI, 86, .inl f))]) hK hP [0, 1] rfl (ci := 0) (q0 := 0) rfl rfl) rfl rfl hl.1 rfl (lv_room (Nat.le_of_ble_eq_true rfl)) dX0_tell_59 ⟨Nat.zero_le _, Nat.zero_le _⟩) ?_
  refine lv_if_eq (pc := 62) (tgt := 83) hx hb dX0_tell_62 (by decide) (fun c_1 => ?_) (fun c_1 => ?_)
  · skip
    have c_1 : ¬ (¬ f (8 + g * 13 + 0) = 0) := b_i_0.mp c_1
    refine lv_bipush (pc := 83) (v := (-6)) hx hb dX0_tell_83 (by decide) ?_
    subst hQ
    exact b_retR hx hb hr hlocks (by simp only [h_tell, (eq_false (by decide) : ((2 : Nat) = 1) = False), (eq_true rfl : ((2 : Nat) = 2) = True), if_true, if_false, if_neg c_1]) dX0_tell_85
  · skip
    have c_1 : ¬ f (8 + g * 13 + 0) = 0 := Classical.not_not.mp (fun h9 => c_1 (b_i_0.mpr h9))
    refine lv_aload_n (pc := 65) hx hb dX0_tell_65 rfl (lv_at hl 0 rfl) ?_
    refine lv_iload_n (pc := 66) hx hb dX0_tell_66 rfl (lv_at hl 1 rfl) ?_
    refine b_cR (pc := 67) (va_runV (As := [.int (nI g)]) (rest := []) ⟨hx, hb, hml, hown, hts⟩ (c_X0_isSure l D cI cC cZ cG h r f g (by omega)) (cwV 1 hts gX0_tell_X0_isSure rfl rfl rfl hy_X0_isSure ⟨Nat.le_of_ble_eq_true rfl, Nat.le_of_ble_eq_true rfl⟩) (b_pRV (wc := [(h, .inr (0, [.ref r])), (r, .inl (cI, 86, .inl f))]) hK hP [0, 1] rfl (ci := 0) (q0 := 0) rfl rfl) rfl rfl hl.1 rfl (lv_room (Nat.le_of_ble_eq_true rfl)) dX0_tell_67 ⟨Nat.zero_le _, Nat.zero_le _⟩) ?_
    refine lv_if_eq (pc := 70) (tgt := 83) hx hb dX0_tell_70 (by decide) (fun c_2 => ?_) (fun c_2 => ?_)
    · skip
      have c_2 : ¬ (¬ f (8 + g * 13 + 3) = 0) := b_i_0.mp c_2
      refine lv_bipush (pc := 83) (v := (-6)) hx hb dX0_tell_83 (by decide) ?_
      subst hQ
      exact b_retR hx hb hr hlocks (by simp only [h_tell, (eq_false (by decide) : ((2 : Nat) = 1) = False), (eq_true rfl : ((2 : Nat) = 2) = True), if_true, if_false, if_pos c_1, if_neg c_2]) dX0_tell_85
    · skip
      have c_2 : ¬ f (8 + g * 13 + 3) = 0 := Classical.not_not.mp (fun h9 => c_2 (b_i_0.mpr h9))
      refine lv_aload_n (pc := 73) hx hb dX0_tell_73 rfl (lv_at hl 0 rfl) ?_
      refine lv_iload_n (pc := 74) hx hb dX0_tell_74 rfl (lv_at hl 1 rfl) ?_
      refine b_cR (pc := 75) (va_runV (As := [.int (nI g)]) (rest := []) ⟨hx, hb, hml, hown, hts⟩ (c_X0_placeOf l D cI cC cZ cG h r f g (by omega)) (cwV 1 hts gX0_tell_X0_placeOf rfl rfl rfl hy_X0_placeOf ⟨Nat.le_of_ble_eq_true rfl, Nat.le_of_ble_eq_true rfl⟩) (b_pRV (wc := [(h, .inr (0, [.ref r])), (r, .inl (cI, 86, .inl f))]) hK hP [0, 1] rfl (ci := 0) (q0 := 0) rfl rfl) rfl rfl hl.1 rfl (lv_room (Nat.le_of_ble_eq_true rfl)) dX0_tell_75 ⟨Nat.zero_le _, Nat.zero_le _⟩) ?_
      refine lv_iconst (pc := 78) (v := 4) hx hb dX0_tell_78 (by decide) ?_
      refine lv_iadd (pc := 79) hx hb dX0_tell_79 ?_
      refine lv_goto (pc := 80) (tgt := 85) hx hb dX0_tell_80 (by decide) ?_
      subst hQ
      exact b_retR hx hb hr hlocks (by simp only [h_tell, (eq_false (by decide) : ((2 : Nat) = 1) = False), (eq_true rfl : ((2 : Nat) = 2) = True), if_true, if_false, if_pos c_1, if_pos c_2]) dX0_tell_85
theorem hw_X0_tell_3_0 : (.fieldLink RX0 11 "BeamTurnstiles$Hall" "row" "[I" : Cond) ∈ wsX0_tell := by decide +kernel
theorem hi_X0_tell_3_X0 : ∀ w ∈ wsX00, w ∈ wsX0_tell := by decide +kernel
set_option maxHeartbeats 4000000 in
set_option maxRecDepth 100000 in
theorem c_X0_tell_3 (l : Launch) (D : va_G) (cI cC cZ cG : ClassId) (h : Nat) (r : Nat) (f : Nat → Int32) (g : Nat) (hg : g < 6) : Met l yX0_tell wsX0_tell ({ frames := 3, cells := 0, slots := 0, locals := 62 } : Room) (b_R D (b_T cI cC cZ cG) [(h, .inr (0, [.ref r])), (r, .inl (cI, 86, .inl f))] [.ref h, .int (nI g), .int (nI 3)]) (vp_Si (fun r => r = h_tell f g 3)) 0 0 (fun _ => False) := by
  refine b_enterR (cc := cX0_tell) (maxL := 3) (ret := (some .int)) (by decide) rfl (Nat.le_of_ble_eq_true rfl) ?_
  intro p e s m below meth c ls hx hb hr hml hown hts hlocks hP hK hl Q hQ
  have hown : s.vm.findClass RX0 = some m.cls := hown
  have hl : lv_has ls 3 [(0, .ref h), (1, .int (nI g)), (2, .int (nI 3))] := hl
  refine lv_iload_n (pc := 0) hx hb dX0_tell_0 rfl (lv_at hl 2 rfl) ?_
  refine lv_tableIn (pc := 1) (tgt := 86) (off := 85) hx hb dX0_tell_1 (by decide) (by decide) (by decide) (by decide) ?_
  refine lv_aload_n (pc := 86) hx hb dX0_tell_86 rfl (lv_at hl 0 rfl) ?_
  refine lv_iload_n (pc := 87) hx hb dX0_tell_87 rfl (lv_at hl 1 rfl) ?_
  refine b_cR (pc := 88) (va_runV (As := [.int (nI g)]) (rest := []) ⟨hx, hb, hml, hown, hts⟩ (c_X0_isUnderWay l D cI cC cZ cG h r f g (by omega)) (cwV 1 hts gX0_tell_X0_isUnderWay rfl rfl rfl hy_X0_isUnderWay ⟨Nat.le_of_ble_eq_true rfl, Nat.le_of_ble_eq_true rfl⟩) (b_pRV (wc := [(h, .inr (0, [.ref r])), (r, .inl (cI, 86, .inl f))]) hK hP [0, 1] rfl (ci := 0) (q0 := 0) rfl rfl) rfl rfl hl.1 rfl (lv_room (Nat.le_of_ble_eq_true rfl)) dX0_tell_88 ⟨Nat.zero_le _, Nat.zero_le _⟩) ?_
  refine lv_if_eq (pc := 91) (tgt := 108) hx hb dX0_tell_91 (by decide) (fun c_1 => ?_) (fun c_1 => ?_)
  · skip
    have c_1 : ¬ (¬ f (8 + g * 13 + 0) = 0) := b_i_0.mp c_1
    refine lv_bipush (pc := 108) (v := (-6)) hx hb dX0_tell_108 (by decide) ?_
    subst hQ
    exact b_retR hx hb hr hlocks (by simp only [h_tell, (eq_false (by decide) : ((3 : Nat) = 1) = False), (eq_false (by decide) : ((3 : Nat) = 2) = False), (eq_true rfl : ((3 : Nat) = 3) = True), if_true, if_false, if_neg c_1]) dX0_tell_110
  · skip
    have c_1 : ¬ f (8 + g * 13 + 0) = 0 := Classical.not_not.mp (fun h9 => c_1 (b_i_0.mpr h9))
    refine lv_aload_n (pc := 94) hx hb dX0_tell_94 rfl (lv_at hl 0 rfl) ?_
    refine va_get (pc := 95) (D := D) (ci := 0) (v := .ref r) (C := RX0) (T := TX0) (N := 1) hx hb hts hi_X0_tell_3_X0 hown hK hP 0 rfl rfl 0 (by decide) (hts _ hw_X0_tell_3_0) (fun _ h9 => h9) rfl dX0_tell_95 ?_
    refine lv_iload_n (pc := 98) hx hb dX0_tell_98 rfl (lv_at hl 1 rfl) ?_
    refine b_cR (pc := 99) (va_runS (As := [.int (nI g)]) (rest := [.ref r]) ⟨hx, hb, hml, hown, hts⟩ (c_X0_partOf l D cI cC cZ cG g) (va_cwS 1 hts gX0_tell_X0_partOf rfl rfl rfl hyS_X0_partOf ⟨Nat.le_of_ble_eq_true rfl, Nat.le_of_ble_eq_true rfl⟩) (b_pRS (wc := []) hK hP [] rfl) rfl rfl hl.1 rfl (lv_room (Nat.le_of_ble_eq_true rfl)) dX0_tell_99 ⟨Nat.zero_le _, Nat.zero_le _⟩) ?_
    refine lv_iconst (pc := 102) (v := 3) hx hb dX0_tell_102 (by decide) ?_
    refine lv_iadd (pc := 103) hx hb dX0_tell_103 ?_
    refine b_re (nI_add (8 + g * 13) 3) ?_
    refine b_iald (pc := 104) hx hb hK hP 1 0 rfl rfl (8 + g * 13 + 3) rfl (by omega) (by decide) dX0_tell_104 ?_
    refine lv_goto (pc := 105) (tgt := 110) hx hb dX0_tell_105 (by decide) ?_
    subst hQ
    exact b_retR hx hb hr hlocks (by simp only [h_tell, (eq_false (by decide) : ((3 : Nat) = 1) = False), (eq_false (by decide) : ((3 : Nat) = 2) = False), (eq_true rfl : ((3 : Nat) = 3) = True), if_true, if_false, if_pos c_1]) dX0_tell_110
set_option maxHeartbeats 4000000 in
set_option maxRecDepth 100000 in
theorem c_X0_tell_4 (l : Launch) (D : va_G) (cI cC cZ cG : ClassId) (h : Nat) (r : Nat) (f : Nat → Int32) (g : Nat) (hg : g < 6) : Met l yX0_tell wsX0_tell ({ frames := 3, cells := 0, slots := 0, locals := 62 } : Room) (b_R D (b_T cI cC cZ cG) [(h, .inr (0, [.ref r])), (r, .inl (cI, 86, .inl f))] [.ref h, .int (nI g), .int (nI 4)]) (vp_Si (fun r => r = h_tell f g 4)) 0 0 (fun _ => False) := by
  refine b_enterR (cc := cX0_tell) (maxL := 3) (ret := (some .int)) (by decide) rfl (Nat.le_of_ble_eq_true rfl) ?_
  intro p e s m below meth c ls hx hb hr hml hown hts hlocks hP hK hl Q hQ
  have hown : s.vm.findClass RX0 = some m.cls := hown
  have hl : lv_has ls 3 [(0, .ref h), (1, .int (nI g)), (2, .int (nI 4))] := hl
  refine lv_iload_n (pc := 0) hx hb dX0_tell_0 rfl (lv_at hl 2 rfl) ?_
  refine lv_tableIn (pc := 1) (tgt := 111) (off := 110) hx hb dX0_tell_1 (by decide) (by decide) (by decide) (by decide) ?_
  refine lv_aload_n (pc := 111) hx hb dX0_tell_111 rfl (lv_at hl 0 rfl) ?_
  refine lv_iload_n (pc := 112) hx hb dX0_tell_112 rfl (lv_at hl 1 rfl) ?_
  refine b_cR (pc := 113) (va_runV (As := [.int (nI g)]) (rest := []) ⟨hx, hb, hml, hown, hts⟩ (c_X0_isBlocked l D cI cC cZ cG h r f g (by omega)) (cwV 1 hts gX0_tell_X0_isBlocked rfl rfl rfl hy_X0_isBlocked ⟨Nat.le_of_ble_eq_true rfl, Nat.le_of_ble_eq_true rfl⟩) (b_pRV (wc := [(h, .inr (0, [.ref r])), (r, .inl (cI, 86, .inl f))]) hK hP [0, 1] rfl (ci := 0) (q0 := 0) rfl rfl) rfl rfl hl.1 rfl (lv_room (Nat.le_of_ble_eq_true rfl)) dX0_tell_113 ⟨Nat.zero_le _, Nat.zero_le _⟩) ?_
  refine lv_if_eq (pc := 116) (tgt := 123) hx hb dX0_tell_116 (by decide) (fun c_1 => ?_) (fun c_1 => ?_)
  · skip
    have c_1 : ¬ (h_blk f g) := b_i_0.mp c_1
    refine lv_iconst (pc := 123) (v := 0) hx hb dX0_tell_123 (by decide) ?_
    subst hQ
    exact b_retR hx hb hr hlocks (by simp only [h_tell, (eq_false (by decide) : ((4 : Nat) = 1) = False), (eq_false (by decide) : ((4 : Nat) = 2) = False), (eq_false (by decide) : ((4 : Nat) = 3) = False), (eq_true rfl : ((4 : Nat) = 4) = True), if_true, if_false]; exact (b_i_f c_1).symm) dX0_tell_124
  · skip
    have c_1 : h_blk f g := Classical.not_not.mp (fun h9 => c_1 (b_i_0.mpr h9))
    refine lv_iconst (pc := 119) (v := 1) hx hb dX0_tell_119 (by decide) ?_
    refine lv_goto (pc := 120) (tgt := 124) hx hb dX0_tell_120 (by decide) ?_
    subst hQ
    exact b_retR hx hb hr hlocks (by simp only [h_tell, (eq_false (by decide) : ((4 : Nat) = 1) = False), (eq_false (by decide) : ((4 : Nat) = 2) = False), (eq_false (by decide) : ((4 : Nat) = 3) = False), (eq_true rfl : ((4 : Nat) = 4) = True), if_true, if_false]; exact (b_i_t c_1).symm) dX0_tell_124
theorem hw_X0_tell_5_0 : (.fieldLink RX0 11 "BeamTurnstiles$Hall" "row" "[I" : Cond) ∈ wsX0_tell := by decide +kernel
theorem hi_X0_tell_5_X0 : ∀ w ∈ wsX00, w ∈ wsX0_tell := by decide +kernel
set_option maxHeartbeats 4000000 in
set_option maxRecDepth 100000 in
theorem c_X0_tell_5 (l : Launch) (D : va_G) (cI cC cZ cG : ClassId) (h : Nat) (r : Nat) (f : Nat → Int32) (g : Nat) (hg : g < 6) : Met l yX0_tell wsX0_tell ({ frames := 3, cells := 0, slots := 0, locals := 62 } : Room) (b_R D (b_T cI cC cZ cG) [(h, .inr (0, [.ref r])), (r, .inl (cI, 86, .inl f))] [.ref h, .int (nI g), .int (nI 5)]) (vp_Si (fun r => r = h_tell f g 5)) 0 0 (fun _ => False) := by
  refine b_enterR (cc := cX0_tell) (maxL := 3) (ret := (some .int)) (by decide) rfl (Nat.le_of_ble_eq_true rfl) ?_
  intro p e s m below meth c ls hx hb hr hml hown hts hlocks hP hK hl Q hQ
  have hown : s.vm.findClass RX0 = some m.cls := hown
  have hl : lv_has ls 3 [(0, .ref h), (1, .int (nI g)), (2, .int (nI 5))] := hl
  refine lv_iload_n (pc := 0) hx hb dX0_tell_0 rfl (lv_at hl 2 rfl) ?_
  refine lv_tableOut (pc := 1) (tgt := 125) hx hb dX0_tell_1 (by decide) (by decide) ?_
  refine lv_aload_n (pc := 125) hx hb dX0_tell_125 rfl (lv_at hl 0 rfl) ?_
  refine va_get (pc := 126) (D := D) (ci := 0) (v := .ref r) (C := RX0) (T := TX0) (N := 1) hx hb hts hi_X0_tell_5_X0 hown hK hP 0 rfl rfl 0 (by decide) (hts _ hw_X0_tell_5_0) (fun _ h9 => h9) rfl dX0_tell_126 ?_
  refine lv_iload_n (pc := 129) hx hb dX0_tell_129 rfl (lv_at hl 1 rfl) ?_
  refine b_cR (pc := 130) (va_runS (As := [.int (nI g)]) (rest := [.ref r]) ⟨hx, hb, hml, hown, hts⟩ (c_X0_partOf l D cI cC cZ cG g) (va_cwS 1 hts gX0_tell_X0_partOf rfl rfl rfl hyS_X0_partOf ⟨Nat.le_of_ble_eq_true rfl, Nat.le_of_ble_eq_true rfl⟩) (b_pRS (wc := []) hK hP [] rfl) rfl rfl hl.1 rfl (lv_room (Nat.le_of_ble_eq_true rfl)) dX0_tell_130 ⟨Nat.zero_le _, Nat.zero_le _⟩) ?_
  refine lv_iload_n (pc := 133) hx hb dX0_tell_133 rfl (lv_at hl 2 rfl) ?_
  refine lv_iadd (pc := 134) hx hb dX0_tell_134 ?_
  refine b_re (nI_add (8 + g * 13) 5) ?_
  refine b_iald (pc := 135) hx hb hK hP 1 0 rfl rfl (8 + g * 13 + 5) rfl (by omega) (by decide) dX0_tell_135 ?_
  subst hQ
  exact b_retR hx hb hr hlocks (by simp only [h_tell, (eq_false (by decide) : ((5 : Nat) = 1) = False), (eq_false (by decide) : ((5 : Nat) = 2) = False), (eq_false (by decide) : ((5 : Nat) = 3) = False), (eq_false (by decide) : ((5 : Nat) = 4) = False), if_true, if_false]) dX0_tell_136
theorem hw_X0_tell_6_0 : (.fieldLink RX0 11 "BeamTurnstiles$Hall" "row" "[I" : Cond) ∈ wsX0_tell := by decide +kernel
theorem hi_X0_tell_6_X0 : ∀ w ∈ wsX00, w ∈ wsX0_tell := by decide +kernel
set_option maxHeartbeats 4000000 in
set_option maxRecDepth 100000 in
theorem c_X0_tell_6 (l : Launch) (D : va_G) (cI cC cZ cG : ClassId) (h : Nat) (r : Nat) (f : Nat → Int32) (g : Nat) (hg : g < 6) : Met l yX0_tell wsX0_tell ({ frames := 3, cells := 0, slots := 0, locals := 62 } : Room) (b_R D (b_T cI cC cZ cG) [(h, .inr (0, [.ref r])), (r, .inl (cI, 86, .inl f))] [.ref h, .int (nI g), .int (nI 6)]) (vp_Si (fun r => r = h_tell f g 6)) 0 0 (fun _ => False) := by
  refine b_enterR (cc := cX0_tell) (maxL := 3) (ret := (some .int)) (by decide) rfl (Nat.le_of_ble_eq_true rfl) ?_
  intro p e s m below meth c ls hx hb hr hml hown hts hlocks hP hK hl Q hQ
  have hown : s.vm.findClass RX0 = some m.cls := hown
  have hl : lv_has ls 3 [(0, .ref h), (1, .int (nI g)), (2, .int (nI 6))] := hl
  refine lv_iload_n (pc := 0) hx hb dX0_tell_0 rfl (lv_at hl 2 rfl) ?_
  refine lv_tableOut (pc := 1) (tgt := 125) hx hb dX0_tell_1 (by decide) (by decide) ?_
  refine lv_aload_n (pc := 125) hx hb dX0_tell_125 rfl (lv_at hl 0 rfl) ?_
  refine va_get (pc := 126) (D := D) (ci := 0) (v := .ref r) (C := RX0) (T := TX0) (N := 1) hx hb hts hi_X0_tell_6_X0 hown hK hP 0 rfl rfl 0 (by decide) (hts _ hw_X0_tell_6_0) (fun _ h9 => h9) rfl dX0_tell_126 ?_
  refine lv_iload_n (pc := 129) hx hb dX0_tell_129 rfl (lv_at hl 1 rfl) ?_
  refine b_cR (pc := 130) (va_runS (As := [.int (nI g)]) (rest := [.ref r]) ⟨hx, hb, hml, hown, hts⟩ (c_X0_partOf l D cI cC cZ cG g) (va_cwS 1 hts gX0_tell_X0_partOf rfl rfl rfl hyS_X0_partOf ⟨Nat.le_of_ble_eq_true rfl, Nat.le_of_ble_eq_true rfl⟩) (b_pRS (wc := []) hK hP [] rfl) rfl rfl hl.1 rfl (lv_room (Nat.le_of_ble_eq_true rfl)) dX0_tell_130 ⟨Nat.zero_le _, Nat.zero_le _⟩) ?_
  refine lv_iload_n (pc := 133) hx hb dX0_tell_133 rfl (lv_at hl 2 rfl) ?_
  refine lv_iadd (pc := 134) hx hb dX0_tell_134 ?_
  refine b_re (nI_add (8 + g * 13) 6) ?_
  refine b_iald (pc := 135) hx hb hK hP 1 0 rfl rfl (8 + g * 13 + 6) rfl (by omega) (by decide) dX0_tell_135 ?_
  subst hQ
  exact b_retR hx hb hr hlocks (by simp only [h_tell, (eq_false (by decide) : ((6 : Nat) = 1) = False), (eq_false (by decide) : ((6 : Nat) = 2) = False), (eq_false (by decide) : ((6 : Nat) = 3) = False), (eq_false (by decide) : ((6 : Nat) = 4) = False), if_true, if_false]) dX0_tell_136
theorem hw_X0_tell_7_0 : (.fieldLink RX0 11 "BeamTurnstiles$Hall" "row" "[I" : Cond) ∈ wsX0_tell := by decide +kernel
theorem hi_X0_tell_7_X0 : ∀ w ∈ wsX00, w ∈ wsX0_tell := by decide +kernel
set_option maxHeartbeats 4000000 in
set_option maxRecDepth 100000 in
theorem c_X0_tell_7 (l : Launch) (D : va_G) (cI cC cZ cG : ClassId) (h : Nat) (r : Nat) (f : Nat → Int32) (g : Nat) (hg : g < 6) : Met l yX0_tell wsX0_tell ({ frames := 3, cells := 0, slots := 0, locals := 62 } : Room) (b_R D (b_T cI cC cZ cG) [(h, .inr (0, [.ref r])), (r, .inl (cI, 86, .inl f))] [.ref h, .int (nI g), .int (nI 7)]) (vp_Si (fun r => r = h_tell f g 7)) 0 0 (fun _ => False) := by
  refine b_enterR (cc := cX0_tell) (maxL := 3) (ret := (some .int)) (by decide) rfl (Nat.le_of_ble_eq_true rfl) ?_
  intro p e s m below meth c ls hx hb hr hml hown hts hlocks hP hK hl Q hQ
  have hown : s.vm.findClass RX0 = some m.cls := hown
  have hl : lv_has ls 3 [(0, .ref h), (1, .int (nI g)), (2, .int (nI 7))] := hl
  refine lv_iload_n (pc := 0) hx hb dX0_tell_0 rfl (lv_at hl 2 rfl) ?_
  refine lv_tableOut (pc := 1) (tgt := 125) hx hb dX0_tell_1 (by decide) (by decide) ?_
  refine lv_aload_n (pc := 125) hx hb dX0_tell_125 rfl (lv_at hl 0 rfl) ?_
  refine va_get (pc := 126) (D := D) (ci := 0) (v := .ref r) (C := RX0) (T := TX0) (N := 1) hx hb hts hi_X0_tell_7_X0 hown hK hP 0 rfl rfl 0 (by decide) (hts _ hw_X0_tell_7_0) (fun _ h9 => h9) rfl dX0_tell_126 ?_
  refine lv_iload_n (pc := 129) hx hb dX0_tell_129 rfl (lv_at hl 1 rfl) ?_
  refine b_cR (pc := 130) (va_runS (As := [.int (nI g)]) (rest := [.ref r]) ⟨hx, hb, hml, hown, hts⟩ (c_X0_partOf l D cI cC cZ cG g) (va_cwS 1 hts gX0_tell_X0_partOf rfl rfl rfl hyS_X0_partOf ⟨Nat.le_of_ble_eq_true rfl, Nat.le_of_ble_eq_true rfl⟩) (b_pRS (wc := []) hK hP [] rfl) rfl rfl hl.1 rfl (lv_room (Nat.le_of_ble_eq_true rfl)) dX0_tell_130 ⟨Nat.zero_le _, Nat.zero_le _⟩) ?_
  refine lv_iload_n (pc := 133) hx hb dX0_tell_133 rfl (lv_at hl 2 rfl) ?_
  refine lv_iadd (pc := 134) hx hb dX0_tell_134 ?_
  refine b_re (nI_add (8 + g * 13) 7) ?_
  refine b_iald (pc := 135) hx hb hK hP 1 0 rfl rfl (8 + g * 13 + 7) rfl (by omega) (by decide) dX0_tell_135 ?_
  subst hQ
  exact b_retR hx hb hr hlocks (by simp only [h_tell, (eq_false (by decide) : ((7 : Nat) = 1) = False), (eq_false (by decide) : ((7 : Nat) = 2) = False), (eq_false (by decide) : ((7 : Nat) = 3) = False), (eq_false (by decide) : ((7 : Nat) = 4) = False), if_true, if_false]) dX0_tell_136
theorem hw_X0_tell_8_0 : (.fieldLink RX0 11 "BeamTurnstiles$Hall" "row" "[I" : Cond) ∈ wsX0_tell := by decide +kernel
theorem hi_X0_tell_8_X0 : ∀ w ∈ wsX00, w ∈ wsX0_tell := by decide +kernel
set_option maxHeartbeats 4000000 in
set_option maxRecDepth 100000 in
theorem c_X0_tell_8 (l : Launch) (D : va_G) (cI cC cZ cG : ClassId) (h : Nat) (r : Nat) (f : Nat → Int32) (g : Nat) (hg : g < 6) : Met l yX0_tell wsX0_tell ({ frames := 3, cells := 0, slots := 0, locals := 62 } : Room) (b_R D (b_T cI cC cZ cG) [(h, .inr (0, [.ref r])), (r, .inl (cI, 86, .inl f))] [.ref h, .int (nI g), .int (nI 8)]) (vp_Si (fun r => r = h_tell f g 8)) 0 0 (fun _ => False) := by
  refine b_enterR (cc := cX0_tell) (maxL := 3) (ret := (some .int)) (by decide) rfl (Nat.le_of_ble_eq_true rfl) ?_
  intro p e s m below meth c ls hx hb hr hml hown hts hlocks hP hK hl Q hQ
  have hown : s.vm.findClass RX0 = some m.cls := hown
  have hl : lv_has ls 3 [(0, .ref h), (1, .int (nI g)), (2, .int (nI 8))] := hl
  refine lv_iload_n (pc := 0) hx hb dX0_tell_0 rfl (lv_at hl 2 rfl) ?_
  refine lv_tableOut (pc := 1) (tgt := 125) hx hb dX0_tell_1 (by decide) (by decide) ?_
  refine lv_aload_n (pc := 125) hx hb dX0_tell_125 rfl (lv_at hl 0 rfl) ?_
  refine va_get (pc := 126) (D := D) (ci := 0) (v := .ref r) (C := RX0) (T := TX0) (N := 1) hx hb hts hi_X0_tell_8_X0 hown hK hP 0 rfl rfl 0 (by decide) (hts _ hw_X0_tell_8_0) (fun _ h9 => h9) rfl dX0_tell_126 ?_
  refine lv_iload_n (pc := 129) hx hb dX0_tell_129 rfl (lv_at hl 1 rfl) ?_
  refine b_cR (pc := 130) (va_runS (As := [.int (nI g)]) (rest := [.ref r]) ⟨hx, hb, hml, hown, hts⟩ (c_X0_partOf l D cI cC cZ cG g) (va_cwS 1 hts gX0_tell_X0_partOf rfl rfl rfl hyS_X0_partOf ⟨Nat.le_of_ble_eq_true rfl, Nat.le_of_ble_eq_true rfl⟩) (b_pRS (wc := []) hK hP [] rfl) rfl rfl hl.1 rfl (lv_room (Nat.le_of_ble_eq_true rfl)) dX0_tell_130 ⟨Nat.zero_le _, Nat.zero_le _⟩) ?_
  refine lv_iload_n (pc := 133) hx hb dX0_tell_133 rfl (lv_at hl 2 rfl) ?_
  refine lv_iadd (pc := 134) hx hb dX0_tell_134 ?_
  refine b_re (nI_add (8 + g * 13) 8) ?_
  refine b_iald (pc := 135) hx hb hK hP 1 0 rfl rfl (8 + g * 13 + 8) rfl (by omega) (by decide) dX0_tell_135 ?_
  subst hQ
  exact b_retR hx hb hr hlocks (by simp only [h_tell, (eq_false (by decide) : ((8 : Nat) = 1) = False), (eq_false (by decide) : ((8 : Nat) = 2) = False), (eq_false (by decide) : ((8 : Nat) = 3) = False), (eq_false (by decide) : ((8 : Nat) = 4) = False), if_true, if_false]) dX0_tell_136
theorem hw_X0_tell_9_0 : (.fieldLink RX0 11 "BeamTurnstiles$Hall" "row" "[I" : Cond) ∈ wsX0_tell := by decide +kernel
theorem hi_X0_tell_9_X0 : ∀ w ∈ wsX00, w ∈ wsX0_tell := by decide +kernel
set_option maxHeartbeats 4000000 in
set_option maxRecDepth 100000 in
theorem c_X0_tell_9 (l : Launch) (D : va_G) (cI cC cZ cG : ClassId) (h : Nat) (r : Nat) (f : Nat → Int32) (g : Nat) (hg : g < 6) : Met l yX0_tell wsX0_tell ({ frames := 3, cells := 0, slots := 0, locals := 62 } : Room) (b_R D (b_T cI cC cZ cG) [(h, .inr (0, [.ref r])), (r, .inl (cI, 86, .inl f))] [.ref h, .int (nI g), .int (nI 9)]) (vp_Si (fun r => r = h_tell f g 9)) 0 0 (fun _ => False) := by
  refine b_enterR (cc := cX0_tell) (maxL := 3) (ret := (some .int)) (by decide) rfl (Nat.le_of_ble_eq_true rfl) ?_
  intro p e s m below meth c ls hx hb hr hml hown hts hlocks hP hK hl Q hQ
  have hown : s.vm.findClass RX0 = some m.cls := hown
  have hl : lv_has ls 3 [(0, .ref h), (1, .int (nI g)), (2, .int (nI 9))] := hl
  refine lv_iload_n (pc := 0) hx hb dX0_tell_0 rfl (lv_at hl 2 rfl) ?_
  refine lv_tableOut (pc := 1) (tgt := 125) hx hb dX0_tell_1 (by decide) (by decide) ?_
  refine lv_aload_n (pc := 125) hx hb dX0_tell_125 rfl (lv_at hl 0 rfl) ?_
  refine va_get (pc := 126) (D := D) (ci := 0) (v := .ref r) (C := RX0) (T := TX0) (N := 1) hx hb hts hi_X0_tell_9_X0 hown hK hP 0 rfl rfl 0 (by decide) (hts _ hw_X0_tell_9_0) (fun _ h9 => h9) rfl dX0_tell_126 ?_
  refine lv_iload_n (pc := 129) hx hb dX0_tell_129 rfl (lv_at hl 1 rfl) ?_
  refine b_cR (pc := 130) (va_runS (As := [.int (nI g)]) (rest := [.ref r]) ⟨hx, hb, hml, hown, hts⟩ (c_X0_partOf l D cI cC cZ cG g) (va_cwS 1 hts gX0_tell_X0_partOf rfl rfl rfl hyS_X0_partOf ⟨Nat.le_of_ble_eq_true rfl, Nat.le_of_ble_eq_true rfl⟩) (b_pRS (wc := []) hK hP [] rfl) rfl rfl hl.1 rfl (lv_room (Nat.le_of_ble_eq_true rfl)) dX0_tell_130 ⟨Nat.zero_le _, Nat.zero_le _⟩) ?_
  refine lv_iload_n (pc := 133) hx hb dX0_tell_133 rfl (lv_at hl 2 rfl) ?_
  refine lv_iadd (pc := 134) hx hb dX0_tell_134 ?_
  refine b_re (nI_add (8 + g * 13) 9) ?_
  refine b_iald (pc := 135) hx hb hK hP 1 0 rfl rfl (8 + g * 13 + 9) rfl (by omega) (by decide) dX0_tell_135 ?_
  subst hQ
  exact b_retR hx hb hr hlocks (by simp only [h_tell, (eq_false (by decide) : ((9 : Nat) = 1) = False), (eq_false (by decide) : ((9 : Nat) = 2) = False), (eq_false (by decide) : ((9 : Nat) = 3) = False), (eq_false (by decide) : ((9 : Nat) = 4) = False), if_true, if_false]) dX0_tell_136
theorem hw_X0_tell_10_0 : (.fieldLink RX0 11 "BeamTurnstiles$Hall" "row" "[I" : Cond) ∈ wsX0_tell := by decide +kernel
theorem hi_X0_tell_10_X0 : ∀ w ∈ wsX00, w ∈ wsX0_tell := by decide +kernel
set_option maxHeartbeats 4000000 in
set_option maxRecDepth 100000 in
theorem c_X0_tell_10 (l : Launch) (D : va_G) (cI cC cZ cG : ClassId) (h : Nat) (r : Nat) (f : Nat → Int32) (g : Nat) (hg : g < 6) : Met l yX0_tell wsX0_tell ({ frames := 3, cells := 0, slots := 0, locals := 62 } : Room) (b_R D (b_T cI cC cZ cG) [(h, .inr (0, [.ref r])), (r, .inl (cI, 86, .inl f))] [.ref h, .int (nI g), .int (nI 10)]) (vp_Si (fun r => r = h_tell f g 10)) 0 0 (fun _ => False) := by
  refine b_enterR (cc := cX0_tell) (maxL := 3) (ret := (some .int)) (by decide) rfl (Nat.le_of_ble_eq_true rfl) ?_
  intro p e s m below meth c ls hx hb hr hml hown hts hlocks hP hK hl Q hQ
  have hown : s.vm.findClass RX0 = some m.cls := hown
  have hl : lv_has ls 3 [(0, .ref h), (1, .int (nI g)), (2, .int (nI 10))] := hl
  refine lv_iload_n (pc := 0) hx hb dX0_tell_0 rfl (lv_at hl 2 rfl) ?_
  refine lv_tableOut (pc := 1) (tgt := 125) hx hb dX0_tell_1 (by decide) (by decide) ?_
  refine lv_aload_n (pc := 125) hx hb dX0_tell_125 rfl (lv_at hl 0 rfl) ?_
  refine va_get (pc := 126) (D := D) (ci := 0) (v := .ref r) (C := RX0) (T := TX0) (N := 1) hx hb hts hi_X0_tell_10_X0 hown hK hP 0 rfl rfl 0 (by decide) (hts _ hw_X0_tell_10_0) (fun _ h9 => h9) rfl dX0_tell_126 ?_
  refine lv_iload_n (pc := 129) hx hb dX0_tell_129 rfl (lv_at hl 1 rfl) ?_
  refine b_cR (pc := 130) (va_runS (As := [.int (nI g)]) (rest := [.ref r]) ⟨hx, hb, hml, hown, hts⟩ (c_X0_partOf l D cI cC cZ cG g) (va_cwS 1 hts gX0_tell_X0_partOf rfl rfl rfl hyS_X0_partOf ⟨Nat.le_of_ble_eq_true rfl, Nat.le_of_ble_eq_true rfl⟩) (b_pRS (wc := []) hK hP [] rfl) rfl rfl hl.1 rfl (lv_room (Nat.le_of_ble_eq_true rfl)) dX0_tell_130 ⟨Nat.zero_le _, Nat.zero_le _⟩) ?_
  refine lv_iload_n (pc := 133) hx hb dX0_tell_133 rfl (lv_at hl 2 rfl) ?_
  refine lv_iadd (pc := 134) hx hb dX0_tell_134 ?_
  refine b_re (nI_add (8 + g * 13) 10) ?_
  refine b_iald (pc := 135) hx hb hK hP 1 0 rfl rfl (8 + g * 13 + 10) rfl (by omega) (by decide) dX0_tell_135 ?_
  subst hQ
  exact b_retR hx hb hr hlocks (by simp only [h_tell, (eq_false (by decide) : ((10 : Nat) = 1) = False), (eq_false (by decide) : ((10 : Nat) = 2) = False), (eq_false (by decide) : ((10 : Nat) = 3) = False), (eq_false (by decide) : ((10 : Nat) = 4) = False), if_true, if_false]) dX0_tell_136
theorem hw_X0_tell_11_0 : (.fieldLink RX0 11 "BeamTurnstiles$Hall" "row" "[I" : Cond) ∈ wsX0_tell := by decide +kernel
theorem hi_X0_tell_11_X0 : ∀ w ∈ wsX00, w ∈ wsX0_tell := by decide +kernel
set_option maxHeartbeats 4000000 in
set_option maxRecDepth 100000 in
theorem c_X0_tell_11 (l : Launch) (D : va_G) (cI cC cZ cG : ClassId) (h : Nat) (r : Nat) (f : Nat → Int32) (g : Nat) (hg : g < 6) : Met l yX0_tell wsX0_tell ({ frames := 3, cells := 0, slots := 0, locals := 62 } : Room) (b_R D (b_T cI cC cZ cG) [(h, .inr (0, [.ref r])), (r, .inl (cI, 86, .inl f))] [.ref h, .int (nI g), .int (nI 11)]) (vp_Si (fun r => r = h_tell f g 11)) 0 0 (fun _ => False) := by
  refine b_enterR (cc := cX0_tell) (maxL := 3) (ret := (some .int)) (by decide) rfl (Nat.le_of_ble_eq_true rfl) ?_
  intro p e s m below meth c ls hx hb hr hml hown hts hlocks hP hK hl Q hQ
  have hown : s.vm.findClass RX0 = some m.cls := hown
  have hl : lv_has ls 3 [(0, .ref h), (1, .int (nI g)), (2, .int (nI 11))] := hl
  refine lv_iload_n (pc := 0) hx hb dX0_tell_0 rfl (lv_at hl 2 rfl) ?_
  refine lv_tableOut (pc := 1) (tgt := 125) hx hb dX0_tell_1 (by decide) (by decide) ?_
  refine lv_aload_n (pc := 125) hx hb dX0_tell_125 rfl (lv_at hl 0 rfl) ?_
  refine va_get (pc := 126) (D := D) (ci := 0) (v := .ref r) (C := RX0) (T := TX0) (N := 1) hx hb hts hi_X0_tell_11_X0 hown hK hP 0 rfl rfl 0 (by decide) (hts _ hw_X0_tell_11_0) (fun _ h9 => h9) rfl dX0_tell_126 ?_
  refine lv_iload_n (pc := 129) hx hb dX0_tell_129 rfl (lv_at hl 1 rfl) ?_
  refine b_cR (pc := 130) (va_runS (As := [.int (nI g)]) (rest := [.ref r]) ⟨hx, hb, hml, hown, hts⟩ (c_X0_partOf l D cI cC cZ cG g) (va_cwS 1 hts gX0_tell_X0_partOf rfl rfl rfl hyS_X0_partOf ⟨Nat.le_of_ble_eq_true rfl, Nat.le_of_ble_eq_true rfl⟩) (b_pRS (wc := []) hK hP [] rfl) rfl rfl hl.1 rfl (lv_room (Nat.le_of_ble_eq_true rfl)) dX0_tell_130 ⟨Nat.zero_le _, Nat.zero_le _⟩) ?_
  refine lv_iload_n (pc := 133) hx hb dX0_tell_133 rfl (lv_at hl 2 rfl) ?_
  refine lv_iadd (pc := 134) hx hb dX0_tell_134 ?_
  refine b_re (nI_add (8 + g * 13) 11) ?_
  refine b_iald (pc := 135) hx hb hK hP 1 0 rfl rfl (8 + g * 13 + 11) rfl (by omega) (by decide) dX0_tell_135 ?_
  subst hQ
  exact b_retR hx hb hr hlocks (by simp only [h_tell, (eq_false (by decide) : ((11 : Nat) = 1) = False), (eq_false (by decide) : ((11 : Nat) = 2) = False), (eq_false (by decide) : ((11 : Nat) = 3) = False), (eq_false (by decide) : ((11 : Nat) = 4) = False), if_true, if_false]) dX0_tell_136
theorem hw_X0_tell_12_0 : (.fieldLink RX0 11 "BeamTurnstiles$Hall" "row" "[I" : Cond) ∈ wsX0_tell := by decide +kernel
theorem hi_X0_tell_12_X0 : ∀ w ∈ wsX00, w ∈ wsX0_tell := by decide +kernel
set_option maxHeartbeats 4000000 in
set_option maxRecDepth 100000 in
theorem c_X0_tell_12 (l : Launch) (D : va_G) (cI cC cZ cG : ClassId) (h : Nat) (r : Nat) (f : Nat → Int32) (g : Nat) (hg : g < 6) : Met l yX0_tell wsX0_tell ({ frames := 3, cells := 0, slots := 0, locals := 62 } : Room) (b_R D (b_T cI cC cZ cG) [(h, .inr (0, [.ref r])), (r, .inl (cI, 86, .inl f))] [.ref h, .int (nI g), .int (nI 12)]) (vp_Si (fun r => r = h_tell f g 12)) 0 0 (fun _ => False) := by
  refine b_enterR (cc := cX0_tell) (maxL := 3) (ret := (some .int)) (by decide) rfl (Nat.le_of_ble_eq_true rfl) ?_
  intro p e s m below meth c ls hx hb hr hml hown hts hlocks hP hK hl Q hQ
  have hown : s.vm.findClass RX0 = some m.cls := hown
  have hl : lv_has ls 3 [(0, .ref h), (1, .int (nI g)), (2, .int (nI 12))] := hl
  refine lv_iload_n (pc := 0) hx hb dX0_tell_0 rfl (lv_at hl 2 rfl) ?_
  refine lv_tableOut (pc := 1) (tgt := 125) hx hb dX0_tell_1 (by decide) (by decide) ?_
  refine lv_aload_n (pc := 125) hx hb dX0_tell_125 rfl (lv_at hl 0 rfl) ?_
  refine va_get (pc := 126) (D := D) (ci := 0) (v := .ref r) (C := RX0) (T := TX0) (N := 1) hx hb hts hi_X0_tell_12_X0 hown hK hP 0 rfl rfl 0 (by decide) (hts _ hw_X0_tell_12_0) (fun _ h9 => h9) rfl dX0_tell_126 ?_
  refine lv_iload_n (pc := 129) hx hb dX0_tell_129 rfl (lv_at hl 1 rfl) ?_
  refine b_cR (pc := 130) (va_runS (As := [.int (nI g)]) (rest := [.ref r]) ⟨hx, hb, hml, hown, hts⟩ (c_X0_partOf l D cI cC cZ cG g) (va_cwS 1 hts gX0_tell_X0_partOf rfl rfl rfl hyS_X0_partOf ⟨Nat.le_of_ble_eq_true rfl, Nat.le_of_ble_eq_true rfl⟩) (b_pRS (wc := []) hK hP [] rfl) rfl rfl hl.1 rfl (lv_room (Nat.le_of_ble_eq_true rfl)) dX0_tell_130 ⟨Nat.zero_le _, Nat.zero_le _⟩) ?_
  refine lv_iload_n (pc := 133) hx hb dX0_tell_133 rfl (lv_at hl 2 rfl) ?_
  refine lv_iadd (pc := 134) hx hb dX0_tell_134 ?_
  refine b_re (nI_add (8 + g * 13) 12) ?_
  refine b_iald (pc := 135) hx hb hK hP 1 0 rfl rfl (8 + g * 13 + 12) rfl (by omega) (by decide) dX0_tell_135 ?_
  subst hQ
  exact b_retR hx hb hr hlocks (by simp only [h_tell, (eq_false (by decide) : ((12 : Nat) = 1) = False), (eq_false (by decide) : ((12 : Nat) = 2) = False), (eq_false (by decide) : ((12 : Nat) = 3) = False), (eq_false (by decide) : ((12 : Nat) = 4) = False), if_true, if_false]) dX0_tell_136
set_option maxHeartbeats 4000000 in
set_option maxRecDepth 100000 in
theorem c_X0_tell (l : Launch) (D : va_G) (cI cC cZ cG : ClassId) (h : Nat) (r : Nat) (f : Nat → Int32) (g : Nat) (w : Nat) (hg : g < 6) (hw : w < 13) : Met l yX0_tell wsX0_tell ({ frames := 3, cells := 0, slots := 0, locals := 62 } : Room) (b_R D (b_T cI cC cZ cG) [(h, .inr (0, [.ref r])), (r, .inl (cI, 86, .inl f))] [.ref h, .int (nI g), .int (nI w)]) (vp_Si (fun r => r = h_tell f g w)) 0 0 (fun _ => False) := by
  match w, hw with
  | 0, _ => exact c_X0_tell_0 l D cI cC cZ cG h r f g hg
  | 1, _ => exact c_X0_tell_1 l D cI cC cZ cG h r f g hg
  | 2, _ => exact c_X0_tell_2 l D cI cC cZ cG h r f g hg
  | 3, _ => exact c_X0_tell_3 l D cI cC cZ cG h r f g hg
  | 4, _ => exact c_X0_tell_4 l D cI cC cZ cG h r f g hg
  | 5, _ => exact c_X0_tell_5 l D cI cC cZ cG h r f g hg
  | 6, _ => exact c_X0_tell_6 l D cI cC cZ cG h r f g hg
  | 7, _ => exact c_X0_tell_7 l D cI cC cZ cG h r f g hg
  | 8, _ => exact c_X0_tell_8 l D cI cC cZ cG h r f g hg
  | 9, _ => exact c_X0_tell_9 l D cI cC cZ cG h r f g hg
  | 10, _ => exact c_X0_tell_10 l D cI cC cZ cG h r f g hg
  | 11, _ => exact c_X0_tell_11 l D cI cC cZ cG h r f g hg
  | 12, _ => exact c_X0_tell_12 l D cI cC cZ cG h r f g hg
  | k + 13, h9 => exact absurd h9 (by omega)
theorem hw_X0_change_0 : (.fieldLink RX0 11 "BeamTurnstiles$Hall" "row" "[I" : Cond) ∈ wsX0_change := by decide +kernel
theorem hi_X0_change_X0 : ∀ w ∈ wsX00, w ∈ wsX0_change := by decide +kernel
theorem hw_X0_change_2 : (.fieldLink RX0 19 "BeamTurnstiles$Hall" "TURNED_BITS" "[I" : Cond) ∈ wsX0_change := by decide +kernel
set_option maxHeartbeats 4000000 in
set_option maxRecDepth 100000 in
/-- Hall.change -/
theorem c_X0_change (l : Launch) (D : va_G) (cI cC cZ cG : ClassId) (tb lo hi : Nat) (sz : Nat) (h : Nat) (r : Nat) (f : Nat → Int32) (g : Nat) (bm : Nat) (hg : g < 6) (hbm : bm < 3) : Met l yX0_change wsX0_change ({ frames := 3, cells := 0, slots := 0, locals := 62 } : Room) (b_W D (b_T cI cC cZ cG) (b_X tb lo hi) [(h, .inr (0, [.ref r])), (r, .inl (cI, 86, .inl f))] sz [.ref h, .int (nI g), .int (nI bm)]) (b_Qi D (f (8 + g * 13 + 0) ^^^ b_tb bm) [(h, .inr (0, [.ref r])), (r, .inl (cI, 86, .inl (h_change f g bm)))] (va_A [(h, .inr (0, [.ref r])), (r, .inl (cI, 86, .inl f))] sz)) 0 0 (va_A [(h, .inr (0, [.ref r])), (r, .inl (cI, 86, .inl f))] sz) := by
  refine b_enterW (Qc := fun A => b_Qi D (f (8 + g * 13 + 0) ^^^ b_tb bm) [(h, .inr (0, [.ref r])), (r, .inl (cI, 86, .inl (h_change f g bm)))] A) (cc := cX0_change) (maxL := 6) (ret := (some .int)) (by decide) rfl (Nat.le_of_ble_eq_true rfl) ?_
  intro p e s m below meth c ls A hx hb hr hml hown hts hlocks hname hP hK hD hA hS hX hl Q hQ
  have hown : s.vm.findClass RX0 = some m.cls := hown
  have hl : lv_has ls 6 [(0, .ref h), (1, .int (nI g)), (2, .int (nI bm))] := hl
  refine lv_iload_n (pc := 0) hx hb dX0_change_0 rfl (lv_at hl 1 rfl) ?_
  refine b_cR (pc := 1) (va_runS (As := [.int (nI g)]) (rest := []) ⟨hx, hb, hml, hown, hts⟩ (c_X0_partOf l D cI cC cZ cG g) (va_cwS 1 hts gX0_change_X0_partOf rfl rfl rfl hyS_X0_partOf ⟨Nat.le_of_ble_eq_true rfl, Nat.le_of_ble_eq_true rfl⟩) (b_pRS (wc := []) hK hP [] rfl) rfl rfl hl.1 rfl (lv_room (Nat.le_of_ble_eq_true rfl)) dX0_change_1 ⟨Nat.zero_le _, Nat.zero_le _⟩) ?_
  refine lv_istore_n (pc := 4) (lv' := [(3, .int (nI (8 + g * 13))), (0, .ref h), (1, .int (nI g)), (2, .int (nI bm))]) hx hb dX0_change_4 rfl hl (by decide) rfl (fun ls hl => ?_)
  refine lv_aload_n (pc := 5) hx hb dX0_change_5 rfl (lv_at hl 1 rfl) ?_
  refine va_get (pc := 6) (D := D) (ci := 0) (v := .ref r) (C := RX0) (T := TX0) (N := 1) hx hb hts hi_X0_change_X0 hown hK hP 0 rfl rfl 0 (by decide) (hts _ hw_X0_change_0) (fun _ h9 => h9) rfl dX0_change_6 ?_
  refine lv_iload_n (pc := 9) hx hb dX0_change_9 rfl (lv_at hl 0 rfl) ?_
  refine lv_iconst (pc := 10) (v := 0) hx hb dX0_change_10 (by decide) ?_
  refine lv_iadd (pc := 11) hx hb dX0_change_11 ?_
  refine b_re (nI_add (8 + g * 13) 0) ?_
  refine b_iald (pc := 12) hx hb hK hP 1 0 rfl rfl (8 + g * 13 + 0) rfl (by omega) (by decide) dX0_change_12 ?_
  refine lv_istore (pc := 13) (lv' := [(4, .int (f (8 + g * 13 + 0))), (3, .int (nI (8 + g * 13))), (0, .ref h), (1, .int (nI g)), (2, .int (nI bm))]) hx hb dX0_change_13 hl (by decide) rfl (fun ls hl => ?_)
  refine lv_iload (pc := 15) hx hb dX0_change_15 (lv_at hl 0 rfl) ?_
  refine va_gets (pc := 17) hx hb hX.1.1 hS hown (hts _ hw_X0_change_2) (fun _ h9 => h9) dX0_change_17 ?_
  refine lv_iload_n (pc := 20) hx hb dX0_change_20 rfl (lv_at hl 4 rfl) ?_
  refine va_ti (pc := 21) (v := .int (b_tb bm)) hx hb hX.1.2 hS (vp_in_nI (n := bm) (by omega) (by decide)) (by rw [nI_clamp (by omega)]) dX0_change_21 ?_
  refine lv_ixor (pc := 22) hx hb dX0_change_22 ?_
  refine lv_istore (pc := 23) (lv' := [(5, .int ((f (8 + g * 13 + 0)) ^^^ (b_tb bm))), (4, .int (f (8 + g * 13 + 0))), (3, .int (nI (8 + g * 13))), (0, .ref h), (1, .int (nI g)), (2, .int (nI bm))]) hx hb dX0_change_23 hl (by decide) rfl (fun ls hl => ?_)
  refine lv_iload (pc := 25) hx hb dX0_change_25 (lv_at hl 1 rfl) ?_
  refine lv_if_ne (pc := 27) (tgt := 35) hx hb dX0_change_27 (by decide) (fun c_1 => ?_) (fun c_1 => ?_)
  · skip
    have c_1 : ¬ ((f (8 + g * 13 + 0)) = 0) := c_1
    refine lv_iload_n (pc := 35) hx hb dX0_change_35 rfl (lv_at hl 5 rfl) ?_
    refine lv_iconst (pc := 36) (v := 2) hx hb dX0_change_36 (by decide) ?_
    refine lv_icmp_ne (pc := 37) (tgt := 52) hx hb dX0_change_37 (by decide) (fun c_2 => ?_) (fun c_2 => ?_)
    · skip
      have c_2 : ¬ (bm = 2) := fun h9 => c_2 ((nI_eq (a := bm) (b := 2) (by omega) (by omega)).mpr h9)
      refine lv_aload_n (pc := 52) hx hb dX0_change_52 rfl (lv_at hl 3 rfl) ?_
      refine va_get (pc := 53) (D := D) (ci := 0) (v := .ref r) (C := RX0) (T := TX0) (N := 1) hx hb hts hi_X0_change_X0 hown hK hP 0 rfl rfl 0 (by decide) (hts _ hw_X0_change_0) (fun _ h9 => h9) rfl dX0_change_53 ?_
      refine lv_iload_n (pc := 56) hx hb dX0_change_56 rfl (lv_at hl 2 rfl) ?_
      refine lv_iconst (pc := 57) (v := 2) hx hb dX0_change_57 (by decide) ?_
      refine lv_iadd (pc := 58) hx hb dX0_change_58 ?_
      refine b_re (nI_add (8 + g * 13) 2) ?_
      refine lv_dup2_11 (pc := 59) hx hb dX0_change_59 rfl rfl ?_
      refine b_iald (pc := 60) hx hb hK hP 1 0 rfl rfl (8 + g * 13 + 2) rfl (by omega) (by decide) dX0_change_60 ?_
      refine lv_iload (pc := 61) hx hb dX0_change_61 (lv_at hl 0 rfl) ?_
      refine lv_iload (pc := 63) hx hb dX0_change_63 (lv_at hl 1 rfl) ?_
      refine lv_iconst (pc := 65) (v := 1) hx hb dX0_change_65 (by decide) ?_
      refine lv_iadd (pc := 66) hx hb dX0_change_66 ?_
      refine lv_iconst (pc := 67) (v := 3) hx hb dX0_change_67 (by decide) ?_
      refine lv_iand (pc := 68) hx hb dX0_change_68 ?_
      refine lv_icmp_ne (pc := 69) (tgt := 76) hx hb dX0_change_69 (by decide) (fun c_3 => ?_) (fun c_3 => ?_)
      · skip
        have c_3 : ¬ (((f (8 + g * 13 + 0)) ^^^ (b_tb bm)) = (((f (8 + g * 13 + 0)) + 1) &&& 3)) := c_3
        refine lv_iconst (pc := 76) (v := (-1)) hx hb dX0_change_76 (by decide) ?_
        refine lv_iadd (pc := 77) hx hb dX0_change_77 ?_
        refine b_iast (pc := 78) hx hb hK hP hD hS 1 0 rfl rfl (8 + g * 13 + 2) rfl (by omega) (by decide) dX0_change_78 (fun H locs hP hD hS => ?_)
        obtain ⟨f_4, ef_4⟩ : ∃ z : Nat → Int32, z = upd f (8 + g * 13 + 2) ((f (8 + g * 13 + 2)) + (-1)) := ⟨_, rfl⟩
        have hP : va_P D vwCl [(h, .inr (0, [.ref r])), (r, .inl (cI, 86, .inl f_4))] H := by rw [ef_4]; exact hP
        have hD : va_D A [(h, .inr (0, [.ref r])), (r, .inl (cI, 86, .inl f_4))] := by rw [ef_4]; exact hD
        refine lv_aload_n (pc := 79) hx hb dX0_change_79 rfl (lv_at hl 3 rfl) ?_
        refine va_get (pc := 80) (D := D) (ci := 0) (v := .ref r) (C := RX0) (T := TX0) (N := 1) hx hb hts hi_X0_change_X0 hown hK hP 0 rfl rfl 0 (by decide) (hts _ hw_X0_change_0) (fun _ h9 => h9) rfl dX0_change_80 ?_
        refine lv_iload_n (pc := 83) hx hb dX0_change_83 rfl (lv_at hl 2 rfl) ?_
        refine lv_iconst (pc := 84) (v := 0) hx hb dX0_change_84 (by decide) ?_
        refine lv_iadd (pc := 85) hx hb dX0_change_85 ?_
        refine b_re (nI_add (8 + g * 13) 0) ?_
        refine lv_iload (pc := 86) hx hb dX0_change_86 (lv_at hl 0 rfl) ?_
        refine b_iast (pc := 88) hx hb hK hP hD hS 1 0 rfl rfl (8 + g * 13 + 0) rfl (by omega) (by decide) dX0_change_88 (fun H locs hP hD hS => ?_)
        obtain ⟨f_5, ef_5⟩ : ∃ z : Nat → Int32, z = upd f_4 (8 + g * 13 + 0) ((f (8 + g * 13 + 0)) ^^^ (b_tb bm)) := ⟨_, rfl⟩
        have hP : va_P D vwCl [(h, .inr (0, [.ref r])), (r, .inl (cI, 86, .inl f_5))] H := by rw [ef_5]; exact hP
        have hD : va_D A [(h, .inr (0, [.ref r])), (r, .inl (cI, 86, .inl f_5))] := by rw [ef_5]; exact hD
        refine lv_iload (pc := 89) hx hb dX0_change_89 (lv_at hl 0 rfl) ?_
        refine lv_if_ne (pc := 91) (tgt := 99) hx hb dX0_change_91 (by decide) (fun c_6 => ?_) (fun c_6 => ?_)
        · skip
          have c_6 : ¬ (((f (8 + g * 13 + 0)) ^^^ (b_tb bm)) = 0) := c_6
          refine lv_iload (pc := 99) hx hb dX0_change_99 (lv_at hl 0 rfl) ?_
          subst ef_4
          subst ef_5
          subst hQ
          exact b_retW hx hb hr hlocks hS (by first | rfl | (simp only [h_change, h_change1, h_change2, h_change3, h_look, if_neg c_1, if_neg c_3, if_neg c_6, if_neg c_2])) (by first | exact hP | (refine (b_eqP ?_ hP); simp only [h_change, h_change1, h_change2, h_change3, h_look, if_neg c_1, if_neg c_3, if_neg c_6, if_neg c_2])) dX0_change_101
        · skip
          have c_6 : ((f (8 + g * 13 + 0)) ^^^ (b_tb bm)) = 0 := c_6
          refine lv_aload_n (pc := 94) hx hb dX0_change_94 rfl (lv_at hl 3 rfl) ?_
          refine lv_iload_n (pc := 95) hx hb dX0_change_95 rfl (lv_at hl 2 rfl) ?_
          refine b_cV (pc := 96) (w1 := [(h, .inr (0, [.ref r])), (r, .inl (cI, 86, .inl (h_end f_5 (8 + g * 13))))]) (va_runV (As := [.int (nI (8 + g * 13))]) (rest := []) ⟨hx, hb, hml, hown, hts⟩ (c_X0_end l D cI cC cZ cG tb lo hi H.size h r f_5 (8 + g * 13) (by omega)) (cwV 1 hts gX0_change_X0_end rfl rfl rfl hy_X0_end ⟨Nat.le_of_ble_eq_true rfl, Nat.le_of_ble_eq_true rfl⟩) (b_pWV (wc := [(h, .inr (0, [.ref r])), (r, .inl (cI, 86, .inl f_5))]) hK hP hD (b_Xok_X tb lo hi) [0, 1] rfl (by decide) rfl (b_Xc hX hD hS hA [0, 1] rfl) (ci := 0) (q0 := 0) rfl rfl) rfl rfl hl.1 rfl (lv_room (Nat.le_of_ble_eq_true rfl)) dX0_change_96 ⟨Nat.zero_le _, Nat.zero_le _⟩) hP hD hS hA [0, 1] rfl rfl (fun H locs hP hD hS => ?_)
          have hP : va_P D vwCl [(h, .inr (0, [.ref r])), (r, .inl (cI, 86, .inl (h_end f_5 (8 + g * 13))))] H := hP
          have hD : va_D A [(h, .inr (0, [.ref r])), (r, .inl (cI, 86, .inl (h_end f_5 (8 + g * 13))))] := hD
          refine lv_iload (pc := 99) hx hb dX0_change_99 (lv_at hl 0 rfl) ?_
          subst ef_4
          subst ef_5
          subst hQ
          exact b_retW hx hb hr hlocks hS (by first | rfl | (simp only [h_change, h_change1, h_change2, h_change3, h_look, if_neg c_1, if_neg c_3, if_pos c_6, if_neg c_2])) (by first | exact hP | (refine (b_eqP ?_ hP); simp only [h_change, h_change1, h_change2, h_change3, h_look, if_neg c_1, if_neg c_3, if_pos c_6, if_neg c_2])) dX0_change_101
      · skip
        have c_3 : ((f (8 + g * 13 + 0)) ^^^ (b_tb bm)) = (((f (8 + g * 13 + 0)) + 1) &&& 3) := c_3
        refine lv_iconst (pc := 72) (v := 1) hx hb dX0_change_72 (by decide) ?_
        refine lv_goto (pc := 73) (tgt := 77) hx hb dX0_change_73 (by decide) ?_
        refine lv_iadd (pc := 77) hx hb dX0_change_77 ?_
        refine b_iast (pc := 78) hx hb hK hP hD hS 1 0 rfl rfl (8 + g * 13 + 2) rfl (by omega) (by decide) dX0_change_78 (fun H locs hP hD hS => ?_)
        obtain ⟨f_7, ef_7⟩ : ∃ z : Nat → Int32, z = upd f (8 + g * 13 + 2) ((f (8 + g * 13 + 2)) + 1) := ⟨_, rfl⟩
        have hP : va_P D vwCl [(h, .inr (0, [.ref r])), (r, .inl (cI, 86, .inl f_7))] H := by rw [ef_7]; exact hP
        have hD : va_D A [(h, .inr (0, [.ref r])), (r, .inl (cI, 86, .inl f_7))] := by rw [ef_7]; exact hD
        refine lv_aload_n (pc := 79) hx hb dX0_change_79 rfl (lv_at hl 3 rfl) ?_
        refine va_get (pc := 80) (D := D) (ci := 0) (v := .ref r) (C := RX0) (T := TX0) (N := 1) hx hb hts hi_X0_change_X0 hown hK hP 0 rfl rfl 0 (by decide) (hts _ hw_X0_change_0) (fun _ h9 => h9) rfl dX0_change_80 ?_
        refine lv_iload_n (pc := 83) hx hb dX0_change_83 rfl (lv_at hl 2 rfl) ?_
        refine lv_iconst (pc := 84) (v := 0) hx hb dX0_change_84 (by decide) ?_
        refine lv_iadd (pc := 85) hx hb dX0_change_85 ?_
        refine b_re (nI_add (8 + g * 13) 0) ?_
        refine lv_iload (pc := 86) hx hb dX0_change_86 (lv_at hl 0 rfl) ?_
        refine b_iast (pc := 88) hx hb hK hP hD hS 1 0 rfl rfl (8 + g * 13 + 0) rfl (by omega) (by decide) dX0_change_88 (fun H locs hP hD hS => ?_)
        obtain ⟨f_8, ef_8⟩ : ∃ z : Nat → Int32, z = upd f_7 (8 + g * 13 + 0) ((f (8 + g * 13 + 0)) ^^^ (b_tb bm)) := ⟨_, rfl⟩
        have hP : va_P D vwCl [(h, .inr (0, [.ref r])), (r, .inl (cI, 86, .inl f_8))] H := by rw [ef_8]; exact hP
        have hD : va_D A [(h, .inr (0, [.ref r])), (r, .inl (cI, 86, .inl f_8))] := by rw [ef_8]; exact hD
        refine lv_iload (pc := 89) hx hb dX0_change_89 (lv_at hl 0 rfl) ?_
        refine lv_if_ne (pc := 91) (tgt := 99) hx hb dX0_change_91 (by decide) (fun c_9 => ?_) (fun c_9 => ?_)
        · skip
          have c_9 : ¬ (((f (8 + g * 13 + 0)) ^^^ (b_tb bm)) = 0) := c_9
          refine lv_iload (pc := 99) hx hb dX0_change_99 (lv_at hl 0 rfl) ?_
          subst ef_7
          subst ef_8
          subst hQ
          exact b_retW hx hb hr hlocks hS (by first | rfl | (simp only [h_change, h_change1, h_change2, h_change3, h_look, if_neg c_1, if_pos c_3, if_neg c_9, if_neg c_2])) (by first | exact hP | (refine (b_eqP ?_ hP); simp only [h_change, h_change1, h_change2, h_change3, h_look, if_neg c_1, if_pos c_3, if_neg c_9, if_neg c_2])) dX0_change_101
        · skip
          have c_9 : ((f (8 + g * 13 + 0)) ^^^ (b_tb bm)) = 0 := c_9
          refine lv_aload_n (pc := 94) hx hb dX0_change_94 rfl (lv_at hl 3 rfl) ?_
          refine lv_iload_n (pc := 95) hx hb dX0_change_95 rfl (lv_at hl 2 rfl) ?_
          refine b_cV (pc := 96) (w1 := [(h, .inr (0, [.ref r])), (r, .inl (cI, 86, .inl (h_end f_8 (8 + g * 13))))]) (va_runV (As := [.int (nI (8 + g * 13))]) (rest := []) ⟨hx, hb, hml, hown, hts⟩ (c_X0_end l D cI cC cZ cG tb lo hi H.size h r f_8 (8 + g * 13) (by omega)) (cwV 1 hts gX0_change_X0_end rfl rfl rfl hy_X0_end ⟨Nat.le_of_ble_eq_true rfl, Nat.le_of_ble_eq_true rfl⟩) (b_pWV (wc := [(h, .inr (0, [.ref r])), (r, .inl (cI, 86, .inl f_8))]) hK hP hD (b_Xok_X tb lo hi) [0, 1] rfl (by decide) rfl (b_Xc hX hD hS hA [0, 1] rfl) (ci := 0) (q0 := 0) rfl rfl) rfl rfl hl.1 rfl (lv_room (Nat.le_of_ble_eq_true rfl)) dX0_change_96 ⟨Nat.zero_le _, Nat.zero_le _⟩) hP hD hS hA [0, 1] rfl rfl (fun H locs hP hD hS => ?_)
          have hP : va_P D vwCl [(h, .inr (0, [.ref r])), (r, .inl (cI, 86, .inl (h_end f_8 (8 + g * 13))))] H := hP
          have hD : va_D A [(h, .inr (0, [.ref r])), (r, .inl (cI, 86, .inl (h_end f_8 (8 + g * 13))))] := hD
          refine lv_iload (pc := 99) hx hb dX0_change_99 (lv_at hl 0 rfl) ?_
          subst ef_7
          subst ef_8
          subst hQ
          exact b_retW hx hb hr hlocks hS (by first | rfl | (simp only [h_change, h_change1, h_change2, h_change3, h_look, if_neg c_1, if_pos c_3, if_pos c_9, if_neg c_2])) (by first | exact hP | (refine (b_eqP ?_ hP); simp only [h_change, h_change1, h_change2, h_change3, h_look, if_neg c_1, if_pos c_3, if_pos c_9, if_neg c_2])) dX0_change_101
    · skip
      have c_2 : bm = 2 := (nI_eq (a := bm) (b := 2) (by omega) (by omega)).mp c_2
      refine lv_aload_n (pc := 40) hx hb dX0_change_40 rfl (lv_at hl 3 rfl) ?_
      refine va_get (pc := 41) (D := D) (ci := 0) (v := .ref r) (C := RX0) (T := TX0) (N := 1) hx hb hts hi_X0_change_X0 hown hK hP 0 rfl rfl 0 (by decide) (hts _ hw_X0_change_0) (fun _ h9 => h9) rfl dX0_change_41 ?_
      refine lv_iload_n (pc := 44) hx hb dX0_change_44 rfl (lv_at hl 2 rfl) ?_
      refine lv_iconst (pc := 45) (v := 3) hx hb dX0_change_45 (by decide) ?_
      refine lv_iadd (pc := 46) hx hb dX0_change_46 ?_
      refine b_re (nI_add (8 + g * 13) 3) ?_
      refine lv_iconst (pc := 47) (v := 0) hx hb dX0_change_47 (by decide) ?_
      refine b_iast (pc := 48) hx hb hK hP hD hS 1 0 rfl rfl (8 + g * 13 + 3) rfl (by omega) (by decide) dX0_change_48 (fun H locs hP hD hS => ?_)
      obtain ⟨f_10, ef_10⟩ : ∃ z : Nat → Int32, z = upd f (8 + g * 13 + 3) 0 := ⟨_, rfl⟩
      have hP : va_P D vwCl [(h, .inr (0, [.ref r])), (r, .inl (cI, 86, .inl f_10))] H := by rw [ef_10]; exact hP
      have hD : va_D A [(h, .inr (0, [.ref r])), (r, .inl (cI, 86, .inl f_10))] := by rw [ef_10]; exact hD
      refine lv_goto (pc := 49) (tgt := 79) hx hb dX0_change_49 (by decide) ?_
      refine lv_aload_n (pc := 79) hx hb dX0_change_79 rfl (lv_at hl 3 rfl) ?_
      refine va_get (pc := 80) (D := D) (ci := 0) (v := .ref r) (C := RX0) (T := TX0) (N := 1) hx hb hts hi_X0_change_X0 hown hK hP 0 rfl rfl 0 (by decide) (hts _ hw_X0_change_0) (fun _ h9 => h9) rfl dX0_change_80 ?_
      refine lv_iload_n (pc := 83) hx hb dX0_change_83 rfl (lv_at hl 2 rfl) ?_
      refine lv_iconst (pc := 84) (v := 0) hx hb dX0_change_84 (by decide) ?_
      refine lv_iadd (pc := 85) hx hb dX0_change_85 ?_
      refine b_re (nI_add (8 + g * 13) 0) ?_
      refine lv_iload (pc := 86) hx hb dX0_change_86 (lv_at hl 0 rfl) ?_
      refine b_iast (pc := 88) hx hb hK hP hD hS 1 0 rfl rfl (8 + g * 13 + 0) rfl (by omega) (by decide) dX0_change_88 (fun H locs hP hD hS => ?_)
      obtain ⟨f_11, ef_11⟩ : ∃ z : Nat → Int32, z = upd f_10 (8 + g * 13 + 0) ((f (8 + g * 13 + 0)) ^^^ (b_tb bm)) := ⟨_, rfl⟩
      have hP : va_P D vwCl [(h, .inr (0, [.ref r])), (r, .inl (cI, 86, .inl f_11))] H := by rw [ef_11]; exact hP
      have hD : va_D A [(h, .inr (0, [.ref r])), (r, .inl (cI, 86, .inl f_11))] := by rw [ef_11]; exact hD
      refine lv_iload (pc := 89) hx hb dX0_change_89 (lv_at hl 0 rfl) ?_
      refine lv_if_ne (pc := 91) (tgt := 99) hx hb dX0_change_91 (by decide) (fun c_12 => ?_) (fun c_12 => ?_)
      · skip
        have c_12 : ¬ (((f (8 + g * 13 + 0)) ^^^ (b_tb bm)) = 0) := c_12
        refine lv_iload (pc := 99) hx hb dX0_change_99 (lv_at hl 0 rfl) ?_
        subst ef_10
        subst ef_11
        subst hQ
        exact b_retW hx hb hr hlocks hS (by first | rfl | (simp only [h_change, h_change1, h_change2, h_change3, h_look, if_neg c_1, if_neg c_12, if_pos c_2])) (by first | exact hP | (refine (b_eqP ?_ hP); simp only [h_change, h_change1, h_change2, h_change3, h_look, if_neg c_1, if_neg c_12, if_pos c_2])) dX0_change_101
      · skip
        have c_12 : ((f (8 + g * 13 + 0)) ^^^ (b_tb bm)) = 0 := c_12
        refine lv_aload_n (pc := 94) hx hb dX0_change_94 rfl (lv_at hl 3 rfl) ?_
        refine lv_iload_n (pc := 95) hx hb dX0_change_95 rfl (lv_at hl 2 rfl) ?_
        refine b_cV (pc := 96) (w1 := [(h, .inr (0, [.ref r])), (r, .inl (cI, 86, .inl (h_end f_11 (8 + g * 13))))]) (va_runV (As := [.int (nI (8 + g * 13))]) (rest := []) ⟨hx, hb, hml, hown, hts⟩ (c_X0_end l D cI cC cZ cG tb lo hi H.size h r f_11 (8 + g * 13) (by omega)) (cwV 1 hts gX0_change_X0_end rfl rfl rfl hy_X0_end ⟨Nat.le_of_ble_eq_true rfl, Nat.le_of_ble_eq_true rfl⟩) (b_pWV (wc := [(h, .inr (0, [.ref r])), (r, .inl (cI, 86, .inl f_11))]) hK hP hD (b_Xok_X tb lo hi) [0, 1] rfl (by decide) rfl (b_Xc hX hD hS hA [0, 1] rfl) (ci := 0) (q0 := 0) rfl rfl) rfl rfl hl.1 rfl (lv_room (Nat.le_of_ble_eq_true rfl)) dX0_change_96 ⟨Nat.zero_le _, Nat.zero_le _⟩) hP hD hS hA [0, 1] rfl rfl (fun H locs hP hD hS => ?_)
        have hP : va_P D vwCl [(h, .inr (0, [.ref r])), (r, .inl (cI, 86, .inl (h_end f_11 (8 + g * 13))))] H := hP
        have hD : va_D A [(h, .inr (0, [.ref r])), (r, .inl (cI, 86, .inl (h_end f_11 (8 + g * 13))))] := hD
        refine lv_iload (pc := 99) hx hb dX0_change_99 (lv_at hl 0 rfl) ?_
        subst ef_10
        subst ef_11
        subst hQ
        exact b_retW hx hb hr hlocks hS (by first | rfl | (simp only [h_change, h_change1, h_change2, h_change3, h_look, if_neg c_1, if_pos c_12, if_pos c_2])) (by first | exact hP | (refine (b_eqP ?_ hP); simp only [h_change, h_change1, h_change2, h_change3, h_look, if_neg c_1, if_pos c_12, if_pos c_2])) dX0_change_101
  · skip
    have c_1 : (f (8 + g * 13 + 0)) = 0 := c_1
    refine lv_aload_n (pc := 30) hx hb dX0_change_30 rfl (lv_at hl 3 rfl) ?_
    refine lv_iload_n (pc := 31) hx hb dX0_change_31 rfl (lv_at hl 2 rfl) ?_
    refine b_cV (pc := 32) (w1 := [(h, .inr (0, [.ref r])), (r, .inl (cI, 86, .inl (h_begin f (8 + g * 13))))]) (va_runV (As := [.int (nI (8 + g * 13))]) (rest := []) ⟨hx, hb, hml, hown, hts⟩ (c_X0_begin l D cI cC cZ cG tb lo hi s.heap.size h r f (8 + g * 13) (by omega)) (cwV 1 hts gX0_change_X0_begin rfl rfl rfl hy_X0_begin ⟨Nat.le_of_ble_eq_true rfl, Nat.le_of_ble_eq_true rfl⟩) (b_pWV (wc := [(h, .inr (0, [.ref r])), (r, .inl (cI, 86, .inl f))]) hK hP hD (b_Xok_X tb lo hi) [0, 1] rfl (by decide) rfl (b_Xc hX hD hS hA [0, 1] rfl) (ci := 0) (q0 := 0) rfl rfl) rfl rfl hl.1 rfl (lv_room (Nat.le_of_ble_eq_true rfl)) dX0_change_32 ⟨Nat.zero_le _, Nat.zero_le _⟩) hP hD hS hA [0, 1] rfl rfl (fun H locs hP hD hS => ?_)
    have hP : va_P D vwCl [(h, .inr (0, [.ref r])), (r, .inl (cI, 86, .inl (h_begin f (8 + g * 13))))] H := hP
    have hD : va_D A [(h, .inr (0, [.ref r])), (r, .inl (cI, 86, .inl (h_begin f (8 + g * 13))))] := hD
    refine lv_iload_n (pc := 35) hx hb dX0_change_35 rfl (lv_at hl 5 rfl) ?_
    refine lv_iconst (pc := 36) (v := 2) hx hb dX0_change_36 (by decide) ?_
    refine lv_icmp_ne (pc := 37) (tgt := 52) hx hb dX0_change_37 (by decide) (fun c_13 => ?_) (fun c_13 => ?_)
    · skip
      have c_13 : ¬ (bm = 2) := fun h9 => c_13 ((nI_eq (a := bm) (b := 2) (by omega) (by omega)).mpr h9)
      refine lv_aload_n (pc := 52) hx hb dX0_change_52 rfl (lv_at hl 3 rfl) ?_
      refine va_get (pc := 53) (D := D) (ci := 0) (v := .ref r) (C := RX0) (T := TX0) (N := 1) hx hb hts hi_X0_change_X0 hown hK hP 0 rfl rfl 0 (by decide) (hts _ hw_X0_change_0) (fun _ h9 => h9) rfl dX0_change_53 ?_
      refine lv_iload_n (pc := 56) hx hb dX0_change_56 rfl (lv_at hl 2 rfl) ?_
      refine lv_iconst (pc := 57) (v := 2) hx hb dX0_change_57 (by decide) ?_
      refine lv_iadd (pc := 58) hx hb dX0_change_58 ?_
      refine b_re (nI_add (8 + g * 13) 2) ?_
      refine lv_dup2_11 (pc := 59) hx hb dX0_change_59 rfl rfl ?_
      refine b_iald (pc := 60) hx hb hK hP 1 0 rfl rfl (8 + g * 13 + 2) rfl (by omega) (by decide) dX0_change_60 ?_
      refine lv_iload (pc := 61) hx hb dX0_change_61 (lv_at hl 0 rfl) ?_
      refine lv_iload (pc := 63) hx hb dX0_change_63 (lv_at hl 1 rfl) ?_
      refine lv_iconst (pc := 65) (v := 1) hx hb dX0_change_65 (by decide) ?_
      refine lv_iadd (pc := 66) hx hb dX0_change_66 ?_
      refine lv_iconst (pc := 67) (v := 3) hx hb dX0_change_67 (by decide) ?_
      refine lv_iand (pc := 68) hx hb dX0_change_68 ?_
      refine lv_icmp_ne (pc := 69) (tgt := 76) hx hb dX0_change_69 (by decide) (fun c_14 => ?_) (fun c_14 => ?_)
      · skip
        have c_14 : ¬ (((f (8 + g * 13 + 0)) ^^^ (b_tb bm)) = (((f (8 + g * 13 + 0)) + 1) &&& 3)) := c_14
        refine lv_iconst (pc := 76) (v := (-1)) hx hb dX0_change_76 (by decide) ?_
        refine lv_iadd (pc := 77) hx hb dX0_change_77 ?_
        refine b_iast (pc := 78) hx hb hK hP hD hS 1 0 rfl rfl (8 + g * 13 + 2) rfl (by omega) (by decide) dX0_change_78 (fun H locs hP hD hS => ?_)
        obtain ⟨f_15, ef_15⟩ : ∃ z : Nat → Int32, z = upd (h_begin f (8 + g * 13)) (8 + g * 13 + 2) (((h_begin f (8 + g * 13)) (8 + g * 13 + 2)) + (-1)) := ⟨_, rfl⟩
        have hP : va_P D vwCl [(h, .inr (0, [.ref r])), (r, .inl (cI, 86, .inl f_15))] H := by rw [ef_15]; exact hP
        have hD : va_D A [(h, .inr (0, [.ref r])), (r, .inl (cI, 86, .inl f_15))] := by rw [ef_15]; exact hD
        refine lv_aload_n (pc := 79) hx hb dX0_change_79 rfl (lv_at hl 3 rfl) ?_
        refine va_get (pc := 80) (D := D) (ci := 0) (v := .ref r) (C := RX0) (T := TX0) (N := 1) hx hb hts hi_X0_change_X0 hown hK hP 0 rfl rfl 0 (by decide) (hts _ hw_X0_change_0) (fun _ h9 => h9) rfl dX0_change_80 ?_
        refine lv_iload_n (pc := 83) hx hb dX0_change_83 rfl (lv_at hl 2 rfl) ?_
        refine lv_iconst (pc := 84) (v := 0) hx hb dX0_change_84 (by decide) ?_
        refine lv_iadd (pc := 85) hx hb dX0_change_85 ?_
        refine b_re (nI_add (8 + g * 13) 0) ?_
        refine lv_iload (pc := 86) hx hb dX0_change_86 (lv_at hl 0 rfl) ?_
        refine b_iast (pc := 88) hx hb hK hP hD hS 1 0 rfl rfl (8 + g * 13 + 0) rfl (by omega) (by decide) dX0_change_88 (fun H locs hP hD hS => ?_)
        obtain ⟨f_16, ef_16⟩ : ∃ z : Nat → Int32, z = upd f_15 (8 + g * 13 + 0) ((f (8 + g * 13 + 0)) ^^^ (b_tb bm)) := ⟨_, rfl⟩
        have hP : va_P D vwCl [(h, .inr (0, [.ref r])), (r, .inl (cI, 86, .inl f_16))] H := by rw [ef_16]; exact hP
        have hD : va_D A [(h, .inr (0, [.ref r])), (r, .inl (cI, 86, .inl f_16))] := by rw [ef_16]; exact hD
        refine lv_iload (pc := 89) hx hb dX0_change_89 (lv_at hl 0 rfl) ?_
        refine lv_if_ne (pc := 91) (tgt := 99) hx hb dX0_change_91 (by decide) (fun c_17 => ?_) (fun c_17 => ?_)
        · skip
          have c_17 : ¬ (((f (8 + g * 13 + 0)) ^^^ (b_tb bm)) = 0) := c_17
          refine lv_iload (pc := 99) hx hb dX0_change_99 (lv_at hl 0 rfl) ?_
          subst ef_15
          subst ef_16
          subst hQ
          exact b_retW hx hb hr hlocks hS (by first | rfl | (simp only [h_change, h_change1, h_change2, h_change3, h_look, if_pos c_1, if_neg c_14, if_neg c_17, if_neg c_13])) (by first | exact hP | (refine (b_eqP ?_ hP); simp only [h_change, h_change1, h_change2, h_change3, h_look, if_pos c_1, if_neg c_14, if_neg c_17, if_neg c_13])) dX0_change_101
        · skip
          have c_17 : ((f (8 + g * 13 + 0)) ^^^ (b_tb bm)) = 0 := c_17
          refine lv_aload_n (pc := 94) hx hb dX0_change_94 rfl (lv_at hl 3 rfl) ?_
          refine lv_iload_n (pc := 95) hx hb dX0_change_95 rfl (lv_at hl 2 rfl) ?_
          refine b_cV (pc := 96) (w1 := [(h, .inr (0, [.ref r])), (r, .inl (cI, 86, .inl (h_end f_16 (8 + g * 13))))]) (va_runV (As := [.int (nI (8 + g * 13))]) (rest := []) ⟨hx, hb, hml, hown, hts⟩ (c_X0_end l D cI cC cZ cG tb lo hi H.size h r f_16 (8 + g * 13) (by omega)) (cwV 1 hts gX0_change_X0_end rfl rfl rfl hy_X0_end ⟨Nat.le_of_ble_eq_true rfl, Nat.le_of_ble_eq_true rfl⟩) (b_pWV (wc := [(h, .inr (0, [.ref r])), (r, .inl (cI, 86, .inl f_16))]) hK hP hD (b_Xok_X tb lo hi) [0, 1] rfl (by decide) rfl (b_Xc hX hD hS hA [0, 1] rfl) (ci := 0) (q0 := 0) rfl rfl) rfl rfl hl.1 rfl (lv_room (Nat.le_of_ble_eq_true rfl)) dX0_change_96 ⟨Nat.zero_le _, Nat.zero_le _⟩) hP hD hS hA [0, 1] rfl rfl (fun H locs hP hD hS => ?_)
          have hP : va_P D vwCl [(h, .inr (0, [.ref r])), (r, .inl (cI, 86, .inl (h_end f_16 (8 + g * 13))))] H := hP
          have hD : va_D A [(h, .inr (0, [.ref r])), (r, .inl (cI, 86, .inl (h_end f_16 (8 + g * 13))))] := hD
          refine lv_iload (pc := 99) hx hb dX0_change_99 (lv_at hl 0 rfl) ?_
          subst ef_15
          subst ef_16
          subst hQ
          exact b_retW hx hb hr hlocks hS (by first | rfl | (simp only [h_change, h_change1, h_change2, h_change3, h_look, if_pos c_1, if_neg c_14, if_pos c_17, if_neg c_13])) (by first | exact hP | (refine (b_eqP ?_ hP); simp only [h_change, h_change1, h_change2, h_change3, h_look, if_pos c_1, if_neg c_14, if_pos c_17, if_neg c_13])) dX0_change_101
      · skip
        have c_14 : ((f (8 + g * 13 + 0)) ^^^ (b_tb bm)) = (((f (8 + g * 13 + 0)) + 1) &&& 3) := c_14
        refine lv_iconst (pc := 72) (v := 1) hx hb dX0_change_72 (by decide) ?_
        refine lv_goto (pc := 73) (tgt := 77) hx hb dX0_change_73 (by decide) ?_
        refine lv_iadd (pc := 77) hx hb dX0_change_77 ?_
        refine b_iast (pc := 78) hx hb hK hP hD hS 1 0 rfl rfl (8 + g * 13 + 2) rfl (by omega) (by decide) dX0_change_78 (fun H locs hP hD hS => ?_)
        obtain ⟨f_18, ef_18⟩ : ∃ z : Nat → Int32, z = upd (h_begin f (8 + g * 13)) (8 + g * 13 + 2) (((h_begin f (8 + g * 13)) (8 + g * 13 + 2)) + 1) := ⟨_, rfl⟩
        have hP : va_P D vwCl [(h, .inr (0, [.ref r])), (r, .inl (cI, 86, .inl f_18))] H := by rw [ef_18]; exact hP
        have hD : va_D A [(h, .inr (0, [.ref r])), (r, .inl (cI, 86, .inl f_18))] := by rw [ef_18]; exact hD
        refine lv_aload_n (pc := 79) hx hb dX0_change_79 rfl (lv_at hl 3 rfl) ?_
        refine va_get (pc := 80) (D := D) (ci := 0) (v := .ref r) (C := RX0) (T := TX0) (N := 1) hx hb hts hi_X0_change_X0 hown hK hP 0 rfl rfl 0 (by decide) (hts _ hw_X0_change_0) (fun _ h9 => h9) rfl dX0_change_80 ?_
        refine lv_iload_n (pc := 83) hx hb dX0_change_83 rfl (lv_at hl 2 rfl) ?_
        refine lv_iconst (pc := 84) (v := 0) hx hb dX0_change_84 (by decide) ?_
        refine lv_iadd (pc := 85) hx hb dX0_change_85 ?_
        refine b_re (nI_add (8 + g * 13) 0) ?_
        refine lv_iload (pc := 86) hx hb dX0_change_86 (lv_at hl 0 rfl) ?_
        refine b_iast (pc := 88) hx hb hK hP hD hS 1 0 rfl rfl (8 + g * 13 + 0) rfl (by omega) (by decide) dX0_change_88 (fun H locs hP hD hS => ?_)
        obtain ⟨f_19, ef_19⟩ : ∃ z : Nat → Int32, z = upd f_18 (8 + g * 13 + 0) ((f (8 + g * 13 + 0)) ^^^ (b_tb bm)) := ⟨_, rfl⟩
        have hP : va_P D vwCl [(h, .inr (0, [.ref r])), (r, .inl (cI, 86, .inl f_19))] H := by rw [ef_19]; exact hP
        have hD : va_D A [(h, .inr (0, [.ref r])), (r, .inl (cI, 86, .inl f_19))] := by rw [ef_19]; exact hD
        refine lv_iload (pc := 89) hx hb dX0_change_89 (lv_at hl 0 rfl) ?_
        refine lv_if_ne (pc := 91) (tgt := 99) hx hb dX0_change_91 (by decide) (fun c_20 => ?_) (fun c_20 => ?_)
        · skip
          have c_20 : ¬ (((f (8 + g * 13 + 0)) ^^^ (b_tb bm)) = 0) := c_20
          refine lv_iload (pc := 99) hx hb dX0_change_99 (lv_at hl 0 rfl) ?_
          subst ef_18
          subst ef_19
          subst hQ
          exact b_retW hx hb hr hlocks hS (by first | rfl | (simp only [h_change, h_change1, h_change2, h_change3, h_look, if_pos c_1, if_pos c_14, if_neg c_20, if_neg c_13])) (by first | exact hP | (refine (b_eqP ?_ hP); simp only [h_change, h_change1, h_change2, h_change3, h_look, if_pos c_1, if_pos c_14, if_neg c_20, if_neg c_13])) dX0_change_101
        · skip
          have c_20 : ((f (8 + g * 13 + 0)) ^^^ (b_tb bm)) = 0 := c_20
          refine lv_aload_n (pc := 94) hx hb dX0_change_94 rfl (lv_at hl 3 rfl) ?_
          refine lv_iload_n (pc := 95) hx hb dX0_change_95 rfl (lv_at hl 2 rfl) ?_
          refine b_cV (pc := 96) (w1 := [(h, .inr (0, [.ref r])), (r, .inl (cI, 86, .inl (h_end f_19 (8 + g * 13))))]) (va_runV (As := [.int (nI (8 + g * 13))]) (rest := []) ⟨hx, hb, hml, hown, hts⟩ (c_X0_end l D cI cC cZ cG tb lo hi H.size h r f_19 (8 + g * 13) (by omega)) (cwV 1 hts gX0_change_X0_end rfl rfl rfl hy_X0_end ⟨Nat.le_of_ble_eq_true rfl, Nat.le_of_ble_eq_true rfl⟩) (b_pWV (wc := [(h, .inr (0, [.ref r])), (r, .inl (cI, 86, .inl f_19))]) hK hP hD (b_Xok_X tb lo hi) [0, 1] rfl (by decide) rfl (b_Xc hX hD hS hA [0, 1] rfl) (ci := 0) (q0 := 0) rfl rfl) rfl rfl hl.1 rfl (lv_room (Nat.le_of_ble_eq_true rfl)) dX0_change_96 ⟨Nat.zero_le _, Nat.zero_le _⟩) hP hD hS hA [0, 1] rfl rfl (fun H locs hP hD hS => ?_)
          have hP : va_P D vwCl [(h, .inr (0, [.ref r])), (r, .inl (cI, 86, .inl (h_end f_19 (8 + g * 13))))] H := hP
          have hD : va_D A [(h, .inr (0, [.ref r])), (r, .inl (cI, 86, .inl (h_end f_19 (8 + g * 13))))] := hD
          refine lv_iload (pc := 99) hx hb dX0_change_99 (lv_at hl 0 rfl) ?_
          subst ef_18
          subst ef_19
          subst hQ
          exact b_retW hx hb hr hlocks hS (by first | rfl | (simp only [h_change, h_change1, h_change2, h_change3, h_look, if_pos c_1, if_pos c_14, if_pos c_20, if_neg c_13])) (by first | exact hP | (refine (b_eqP ?_ hP); simp only [h_change, h_change1, h_change2, h_change3, h_look, if_pos c_1, if_pos c_14, if_pos c_20, if_neg c_13])) dX0_change_101
    · skip
      have c_13 : bm = 2 := (nI_eq (a := bm) (b := 2) (by omega) (by omega)).mp c_13
      refine lv_aload_n (pc := 40) hx hb dX0_change_40 rfl (lv_at hl 3 rfl) ?_
      refine va_get (pc := 41) (D := D) (ci := 0) (v := .ref r) (C := RX0) (T := TX0) (N := 1) hx hb hts hi_X0_change_X0 hown hK hP 0 rfl rfl 0 (by decide) (hts _ hw_X0_change_0) (fun _ h9 => h9) rfl dX0_change_41 ?_
      refine lv_iload_n (pc := 44) hx hb dX0_change_44 rfl (lv_at hl 2 rfl) ?_
      refine lv_iconst (pc := 45) (v := 3) hx hb dX0_change_45 (by decide) ?_
      refine lv_iadd (pc := 46) hx hb dX0_change_46 ?_
      refine b_re (nI_add (8 + g * 13) 3) ?_
      refine lv_iconst (pc := 47) (v := 0) hx hb dX0_change_47 (by decide) ?_
      refine b_iast (pc := 48) hx hb hK hP hD hS 1 0 rfl rfl (8 + g * 13 + 3) rfl (by omega) (by decide) dX0_change_48 (fun H locs hP hD hS => ?_)
      obtain ⟨f_21, ef_21⟩ : ∃ z : Nat → Int32, z = upd (h_begin f (8 + g * 13)) (8 + g * 13 + 3) 0 := ⟨_, rfl⟩
      have hP : va_P D vwCl [(h, .inr (0, [.ref r])), (r, .inl (cI, 86, .inl f_21))] H := by rw [ef_21]; exact hP
      have hD : va_D A [(h, .inr (0, [.ref r])), (r, .inl (cI, 86, .inl f_21))] := by rw [ef_21]; exact hD
      refine lv_goto (pc := 49) (tgt := 79) hx hb dX0_change_49 (by decide) ?_
      refine lv_aload_n (pc := 79) hx hb dX0_change_79 rfl (lv_at hl 3 rfl) ?_
      refine va_get (pc := 80) (D := D) (ci := 0) (v := .ref r) (C := RX0) (T := TX0) (N := 1) hx hb hts hi_X0_change_X0 hown hK hP 0 rfl rfl 0 (by decide) (hts _ hw_X0_change_0) (fun _ h9 => h9) rfl dX0_change_80 ?_
      refine lv_iload_n (pc := 83) hx hb dX0_change_83 rfl (lv_at hl 2 rfl) ?_
      refine lv_iconst (pc := 84) (v := 0) hx hb dX0_change_84 (by decide) ?_
      refine lv_iadd (pc := 85) hx hb dX0_change_85 ?_
      refine b_re (nI_add (8 + g * 13) 0) ?_
      refine lv_iload (pc := 86) hx hb dX0_change_86 (lv_at hl 0 rfl) ?_
      refine b_iast (pc := 88) hx hb hK hP hD hS 1 0 rfl rfl (8 + g * 13 + 0) rfl (by omega) (by decide) dX0_change_88 (fun H locs hP hD hS => ?_)
      obtain ⟨f_22, ef_22⟩ : ∃ z : Nat → Int32, z = upd f_21 (8 + g * 13 + 0) ((f (8 + g * 13 + 0)) ^^^ (b_tb bm)) := ⟨_, rfl⟩
      have hP : va_P D vwCl [(h, .inr (0, [.ref r])), (r, .inl (cI, 86, .inl f_22))] H := by rw [ef_22]; exact hP
      have hD : va_D A [(h, .inr (0, [.ref r])), (r, .inl (cI, 86, .inl f_22))] := by rw [ef_22]; exact hD
      refine lv_iload (pc := 89) hx hb dX0_change_89 (lv_at hl 0 rfl) ?_
      refine lv_if_ne (pc := 91) (tgt := 99) hx hb dX0_change_91 (by decide) (fun c_23 => ?_) (fun c_23 => ?_)
      · skip
        have c_23 : ¬ (((f (8 + g * 13 + 0)) ^^^ (b_tb bm)) = 0) := c_23
        refine lv_iload (pc := 99) hx hb dX0_change_99 (lv_at hl 0 rfl) ?_
        subst ef_21
        subst ef_22
        subst hQ
        exact b_retW hx hb hr hlocks hS (by first | rfl | (simp only [h_change, h_change1, h_change2, h_change3, h_look, if_pos c_1, if_neg c_23, if_pos c_13])) (by first | exact hP | (refine (b_eqP ?_ hP); simp only [h_change, h_change1, h_change2, h_change3, h_look, if_pos c_1, if_neg c_23, if_pos c_13])) dX0_change_101
      · skip
        have c_23 : ((f (8 + g * 13 + 0)) ^^^ (b_tb bm)) = 0 := c_23
        refine lv_aload_n (pc := 94) hx hb dX0_change_94 rfl (lv_at hl 3 rfl) ?_
        refine lv_iload_n (pc := 95) hx hb dX0_change_95 rfl (lv_at hl 2 rfl) ?_
        refine b_cV (pc := 96) (w1 := [(h, .inr (0, [.ref r])), (r, .inl (cI, 86, .inl (h_end f_22 (8 + g * 13))))]) (va_runV (As := [.int (nI (8 + g * 13))]) (rest := []) ⟨hx, hb, hml, hown, hts⟩ (c_X0_end l D cI cC cZ cG tb lo hi H.size h r f_22 (8 + g * 13) (by omega)) (cwV 1 hts gX0_change_X0_end rfl rfl rfl hy_X0_end ⟨Nat.le_of_ble_eq_true rfl, Nat.le_of_ble_eq_true rfl⟩) (b_pWV (wc := [(h, .inr (0, [.ref r])), (r, .inl (cI, 86, .inl f_22))]) hK hP hD (b_Xok_X tb lo hi) [0, 1] rfl (by decide) rfl (b_Xc hX hD hS hA [0, 1] rfl) (ci := 0) (q0 := 0) rfl rfl) rfl rfl hl.1 rfl (lv_room (Nat.le_of_ble_eq_true rfl)) dX0_change_96 ⟨Nat.zero_le _, Nat.zero_le _⟩) hP hD hS hA [0, 1] rfl rfl (fun H locs hP hD hS => ?_)
        have hP : va_P D vwCl [(h, .inr (0, [.ref r])), (r, .inl (cI, 86, .inl (h_end f_22 (8 + g * 13))))] H := hP
        have hD : va_D A [(h, .inr (0, [.ref r])), (r, .inl (cI, 86, .inl (h_end f_22 (8 + g * 13))))] := hD
        refine lv_iload (pc := 99) hx hb dX0_change_99 (lv_at hl 0 rfl) ?_
        subst ef_21
        subst ef_22
        subst hQ
        exact b_retW hx hb hr hlocks hS (by first | rfl | (simp only [h_change, h_change1, h_change2, h_change3, h_look, if_pos c_1, if_pos c_23, if_pos c_13])) (by first | exact hP | (refine (b_eqP ?_ hP); simp only [h_change, h_change1, h_change2, h_change3, h_look, if_pos c_1, if_pos c_23, if_pos c_13])) dX0_change_101
theorem hw_X0_free_0 : (.fieldLink RX0 11 "BeamTurnstiles$Hall" "row" "[I" : Cond) ∈ wsX0_free := by decide +kernel
theorem hi_X0_free_X0 : ∀ w ∈ wsX00, w ∈ wsX0_free := by decide +kernel
set_option maxHeartbeats 4000000 in
set_option maxRecDepth 100000 in
/-- Hall.free -/
theorem c_X0_free (l : Launch) (D : va_G) (cI cC cZ cG : ClassId) (tb lo hi : Nat) (sz : Nat) (h : Nat) (r : Nat) (f : Nat → Int32) (g : Nat) (hg : g < 6) : Met l yX0_free wsX0_free ({ frames := 3, cells := 0, slots := 0, locals := 62 } : Room) (b_W D (b_T cI cC cZ cG) (b_X tb lo hi) [(h, .inr (0, [.ref r])), (r, .inl (cI, 86, .inl f))] sz [.ref h, .int (nI g)]) (b_Qi D (f (8 + g * 13 + 0)) [(h, .inr (0, [.ref r])), (r, .inl (cI, 86, .inl (h_free f g)))] (va_A [(h, .inr (0, [.ref r])), (r, .inl (cI, 86, .inl f))] sz)) 0 0 (va_A [(h, .inr (0, [.ref r])), (r, .inl (cI, 86, .inl f))] sz) := by
  refine b_enterW (Qc := fun A => b_Qi D (f (8 + g * 13 + 0)) [(h, .inr (0, [.ref r])), (r, .inl (cI, 86, .inl (h_free f g)))] A) (cc := cX0_free) (maxL := 4) (ret := (some .int)) (by decide) rfl (Nat.le_of_ble_eq_true rfl) ?_
  intro p e s m below meth c ls A hx hb hr hml hown hts hlocks hname hP hK hD hA hS hX hl Q hQ
  have hown : s.vm.findClass RX0 = some m.cls := hown
  have hl : lv_has ls 4 [(0, .ref h), (1, .int (nI g))] := hl
  refine lv_iload_n (pc := 0) hx hb dX0_free_0 rfl (lv_at hl 1 rfl) ?_
  refine b_cR (pc := 1) (va_runS (As := [.int (nI g)]) (rest := []) ⟨hx, hb, hml, hown, hts⟩ (c_X0_partOf l D cI cC cZ cG g) (va_cwS 1 hts gX0_free_X0_partOf rfl rfl rfl hyS_X0_partOf ⟨Nat.le_of_ble_eq_true rfl, Nat.le_of_ble_eq_true rfl⟩) (b_pRS (wc := []) hK hP [] rfl) rfl rfl hl.1 rfl (lv_room (Nat.le_of_ble_eq_true rfl)) dX0_free_1 ⟨Nat.zero_le _, Nat.zero_le _⟩) ?_
  refine lv_istore_n (pc := 4) (lv' := [(2, .int (nI (8 + g * 13))), (0, .ref h), (1, .int (nI g))]) hx hb dX0_free_4 rfl hl (by decide) rfl (fun ls hl => ?_)
  refine lv_aload_n (pc := 5) hx hb dX0_free_5 rfl (lv_at hl 1 rfl) ?_
  refine va_get (pc := 6) (D := D) (ci := 0) (v := .ref r) (C := RX0) (T := TX0) (N := 1) hx hb hts hi_X0_free_X0 hown hK hP 0 rfl rfl 0 (by decide) (hts _ hw_X0_free_0) (fun _ h9 => h9) rfl dX0_free_6 ?_
  refine lv_iload_n (pc := 9) hx hb dX0_free_9 rfl (lv_at hl 0 rfl) ?_
  refine lv_iconst (pc := 10) (v := 0) hx hb dX0_free_10 (by decide) ?_
  refine lv_iadd (pc := 11) hx hb dX0_free_11 ?_
  refine b_re (nI_add (8 + g * 13) 0) ?_
  refine b_iald (pc := 12) hx hb hK hP 1 0 rfl rfl (8 + g * 13 + 0) rfl (by omega) (by decide) dX0_free_12 ?_
  refine lv_istore_n (pc := 13) (lv' := [(3, .int (f (8 + g * 13 + 0))), (2, .int (nI (8 + g * 13))), (0, .ref h), (1, .int (nI g))]) hx hb dX0_free_13 rfl hl (by decide) rfl (fun ls hl => ?_)
  refine lv_aload_n (pc := 14) hx hb dX0_free_14 rfl (lv_at hl 2 rfl) ?_
  refine va_get (pc := 15) (D := D) (ci := 0) (v := .ref r) (C := RX0) (T := TX0) (N := 1) hx hb hts hi_X0_free_X0 hown hK hP 0 rfl rfl 0 (by decide) (hts _ hw_X0_free_0) (fun _ h9 => h9) rfl dX0_free_15 ?_
  refine lv_iload_n (pc := 18) hx hb dX0_free_18 rfl (lv_at hl 1 rfl) ?_
  refine lv_iconst (pc := 19) (v := 0) hx hb dX0_free_19 (by decide) ?_
  refine lv_iadd (pc := 20) hx hb dX0_free_20 ?_
  refine b_re (nI_add (8 + g * 13) 0) ?_
  refine lv_iconst (pc := 21) (v := 0) hx hb dX0_free_21 (by decide) ?_
  refine b_iast (pc := 22) hx hb hK hP hD hS 1 0 rfl rfl (8 + g * 13 + 0) rfl (by omega) (by decide) dX0_free_22 (fun H locs hP hD hS => ?_)
  obtain ⟨f_1, ef_1⟩ : ∃ z : Nat → Int32, z = upd f (8 + g * 13 + 0) 0 := ⟨_, rfl⟩
  have hP : va_P D vwCl [(h, .inr (0, [.ref r])), (r, .inl (cI, 86, .inl f_1))] H := by rw [ef_1]; exact hP
  have hD : va_D A [(h, .inr (0, [.ref r])), (r, .inl (cI, 86, .inl f_1))] := by rw [ef_1]; exact hD
  refine lv_aload_n (pc := 23) hx hb dX0_free_23 rfl (lv_at hl 2 rfl) ?_
  refine va_get (pc := 24) (D := D) (ci := 0) (v := .ref r) (C := RX0) (T := TX0) (N := 1) hx hb hts hi_X0_free_X0 hown hK hP 0 rfl rfl 0 (by decide) (hts _ hw_X0_free_0) (fun _ h9 => h9) rfl dX0_free_24 ?_
  refine lv_iload_n (pc := 27) hx hb dX0_free_27 rfl (lv_at hl 1 rfl) ?_
  refine lv_iconst (pc := 28) (v := 3) hx hb dX0_free_28 (by decide) ?_
  refine lv_iadd (pc := 29) hx hb dX0_free_29 ?_
  refine b_re (nI_add (8 + g * 13) 3) ?_
  refine lv_iconst (pc := 30) (v := 0) hx hb dX0_free_30 (by decide) ?_
  refine b_iast (pc := 31) hx hb hK hP hD hS 1 0 rfl rfl (8 + g * 13 + 3) rfl (by omega) (by decide) dX0_free_31 (fun H locs hP hD hS => ?_)
  obtain ⟨f_2, ef_2⟩ : ∃ z : Nat → Int32, z = upd f_1 (8 + g * 13 + 3) 0 := ⟨_, rfl⟩
  have hP : va_P D vwCl [(h, .inr (0, [.ref r])), (r, .inl (cI, 86, .inl f_2))] H := by rw [ef_2]; exact hP
  have hD : va_D A [(h, .inr (0, [.ref r])), (r, .inl (cI, 86, .inl f_2))] := by rw [ef_2]; exact hD
  refine lv_aload_n (pc := 32) hx hb dX0_free_32 rfl (lv_at hl 2 rfl) ?_
  refine lv_iload_n (pc := 33) hx hb dX0_free_33 rfl (lv_at hl 1 rfl) ?_
  refine b_cV (pc := 34) (w1 := [(h, .inr (0, [.ref r])), (r, .inl (cI, 86, .inl (h_end f_2 (8 + g * 13))))]) (va_runV (As := [.int (nI (8 + g * 13))]) (rest := []) ⟨hx, hb, hml, hown, hts⟩ (c_X0_end l D cI cC cZ cG tb lo hi H.size h r f_2 (8 + g * 13) (by omega)) (cwV 1 hts gX0_free_X0_end rfl rfl rfl hy_X0_end ⟨Nat.le_of_ble_eq_true rfl, Nat.le_of_ble_eq_true rfl⟩) (b_pWV (wc := [(h, .inr (0, [.ref r])), (r, .inl (cI, 86, .inl f_2))]) hK hP hD (b_Xok_X tb lo hi) [0, 1] rfl (by decide) rfl (b_Xc hX hD hS hA [0, 1] rfl) (ci := 0) (q0 := 0) rfl rfl) rfl rfl hl.1 rfl (lv_room (Nat.le_of_ble_eq_true rfl)) dX0_free_34 ⟨Nat.zero_le _, Nat.zero_le _⟩) hP hD hS hA [0, 1] rfl rfl (fun H locs hP hD hS => ?_)
  have hP : va_P D vwCl [(h, .inr (0, [.ref r])), (r, .inl (cI, 86, .inl (h_end f_2 (8 + g * 13))))] H := hP
  have hD : va_D A [(h, .inr (0, [.ref r])), (r, .inl (cI, 86, .inl (h_end f_2 (8 + g * 13))))] := hD
  refine lv_iload_n (pc := 37) hx hb dX0_free_37 rfl (lv_at hl 0 rfl) ?_
  subst ef_1
  subst ef_2
  subst hQ
  exact b_retW hx hb hr hlocks hS (by first | rfl | (simp only [h_free])) (by first | exact hP | (refine (b_eqP ?_ hP); simp only [h_free])) dX0_free_38
end
