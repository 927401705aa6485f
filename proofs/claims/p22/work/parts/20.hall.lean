/-! the hall's row f: what each method does to it; a gate's part begins at 8 + g * 13 -/
def h_become (f : Nat → Int32) (x : Int32) : Nat → Int32 := if x ≤ upd f 4 x 5 then upd f 4 x else upd (upd f 4 x) 5 x
def h_more (f : Nat → Int32) : Nat → Int32 := if h_become f (f 4 + 1) 4 ≤ h_become f (f 4 + 1) 2 then h_become f (f 4 + 1) else upd (h_become f (f 4 + 1)) 6 (h_become f (f 4 + 1) 6 + 1)
def h_less (f : Nat → Int32) : Nat → Int32 := if f 4 ≤ 0 then upd f 7 (f 7 + 1) else upd f 4 (f 4 - 1)
def h_come1 (f : Nat → Int32) (P w : Nat) : Nat → Int32 := if f (P + 4) = nI w then (if f 1 < f (P + 1) - f (P + 12) then f else upd f (P + 10) (f (P + 10) + 1)) else f
def h_come2 (f : Nat → Int32) (P w : Nat) (b : Int32) : Nat → Int32 :=
  let f2 := upd f (P + w) (f (P + w) + 1)
  let f3 := upd f2 (P + 11) (f2 (P + 11) + (f2 3 - b))
  let f4 := upd f3 (P + 4) (nI w)
  upd f4 (P + 12) (f4 3)
def h_come (f : Nat → Int32) (P w : Nat) : Nat → Int32 := h_come2 (h_come1 f P w) P w (f (P + 1))
def h_end1 (f : Nat → Int32) (P : Nat) : Nat → Int32 := if f 3 - f (P + 1) < f 0 then f else upd f (P + 9) (f (P + 9) + 1)
def h_end2 (f : Nat → Int32) (P : Nat) : Nat → Int32 := if f (P + 3) = 0 then upd f (P + 8) (f (P + 8) + 1) else if f (P + 2) = 4 then h_more (h_come f P 5) else if f (P + 2) = (-4) then h_less (h_come f P 6) else upd f (P + 7) (f (P + 7) + 1)
def h_end (f : Nat → Int32) (P : Nat) : Nat → Int32 := h_end2 (h_end1 f P) P
def h_begin (f : Nat → Int32) (P : Nat) : Nat → Int32 := upd (upd (upd f (P + 1) (f 3)) (P + 2) 0) (P + 3) 1
def h_goBy (f : Nat → Int32) (t : Int32) : Nat → Int32 := upd f 3 (f 3 + t)
abbrev h_blk (f : Nat → Int32) (g : Nat) : Prop := (¬ f (8 + g * 13 + 0) = 0) ∧ ¬ f 3 - f (8 + g * 13 + 1) < f 0
def h_bm (f : Nat → Int32) : Nat → Int32
  | 0 => 0
  | k + 1 => if h_blk f k then h_bm f k ||| ((1 : Int32) <<< (nI k &&& 31)) else h_bm f k
def h_um (f : Nat → Int32) : Nat → Int32
  | 0 => 0
  | k + 1 => if ¬ f (8 + k * 13 + 0) = 0 then h_um f k ||| ((1 : Int32) <<< (nI k &&& 31)) else h_um f k
def h_sum (f : Nat → Int32) (w : Nat) : Nat → Int32
  | 0 => 0
  | k + 1 => h_sum f w k + f (8 + k * 13 + w)
def h_tell (f : Nat → Int32) (g w : Nat) : Int32 :=
  if w = 1 then (if ¬ f (8 + g * 13 + 0) = 0 then f (8 + g * 13 + 1) else -6) else
  if w = 2 then (if ¬ f (8 + g * 13 + 0) = 0 then (if ¬ f (8 + g * 13 + 3) = 0 then f (8 + g * 13 + 2) + 4 else -6) else -6) else
  if w = 3 then (if ¬ f (8 + g * 13 + 0) = 0 then f (8 + g * 13 + 3) else -6) else
  if w = 4 then b_i (h_blk f g) else f (8 + g * 13 + w)
def h_change1 (f : Nat → Int32) (P : Nat) : Nat → Int32 := if f (P + 0) = 0 then h_begin f P else f
abbrev h_look (f : Nat → Int32) (P bm : Nat) : Int32 := f (P + 0) ^^^ b_tb bm
def h_change2 (f : Nat → Int32) (P bm : Nat) (b k : Int32) : Nat → Int32 := if bm = 2 then upd f (P + 3) 0 else upd f (P + 2) (f (P + 2) + (if k = (b + 1) &&& 3 then 1 else (-1)))
def h_change3 (f : Nat → Int32) (P : Nat) (k : Int32) : Nat → Int32 := if k = 0 then h_end (upd f (P + 0) k) P else upd f (P + 0) k
def h_change (f : Nat → Int32) (g bm : Nat) : Nat → Int32 := h_change3 (h_change2 (h_change1 f (8 + g * 13)) (8 + g * 13) bm (f (8 + g * 13 + 0)) (h_look f (8 + g * 13) bm)) (8 + g * 13) (h_look f (8 + g * 13) bm)
def h_free (f : Nat → Int32) (g : Nat) : Nat → Int32 := h_end (upd (upd f (8 + g * 13 + 0) 0) (8 + g * 13 + 3) 0) (8 + g * 13)
theorem b_eqP {D : va_G} {cl : List vw_C} {w1 w2 : va_W} {H : Heap} (h : w1 = w2) (hP : va_P D cl w1 H) : va_P D cl w2 H := h ▸ hP
theorem b_not6 {i : Nat} (h : i ≤ 6) (c : ¬ i < 6) : i = 6 := by omega

theorem hy_X0_partOf : yX0_partOf.cls = RX0 ∧ yX0_partOf.cls ≠ "java/lang/invoke/MethodHandle" ∧ yX0_partOf.cls ≠ "java/lang/invoke/VarHandle" ∧ (parseMethodDescriptor yX0_partOf.desc).map (fun d => d.parameters.length) = some 1 := by decide +kernel
theorem hyS_X0_partOf : yX0_partOf.cls ≠ "java/lang/invoke/MethodHandle" ∧ yX0_partOf.cls ≠ "java/lang/invoke/VarHandle" ∧ (parseMethodDescriptor yX0_partOf.desc).map (fun d => d.parameters.length) = some 1 := hy_X0_partOf.2
theorem hy_X0_change : yX0_change.cls = RX0 ∧ yX0_change.cls ≠ "java/lang/invoke/MethodHandle" ∧ yX0_change.cls ≠ "java/lang/invoke/VarHandle" ∧ (parseMethodDescriptor yX0_change.desc).map (fun d => d.parameters.length) = some 2 := by decide +kernel
theorem hyS_X0_change : yX0_change.cls ≠ "java/lang/invoke/MethodHandle" ∧ yX0_change.cls ≠ "java/lang/invoke/VarHandle" ∧ (parseMethodDescriptor yX0_change.desc).map (fun d => d.parameters.length) = some 2 := hy_X0_change.2
theorem hy_X0_free : yX0_free.cls = RX0 ∧ yX0_free.cls ≠ "java/lang/invoke/MethodHandle" ∧ yX0_free.cls ≠ "java/lang/invoke/VarHandle" ∧ (parseMethodDescriptor yX0_free.desc).map (fun d => d.parameters.length) = some 1 := by decide +kernel
theorem hyS_X0_free : yX0_free.cls ≠ "java/lang/invoke/MethodHandle" ∧ yX0_free.cls ≠ "java/lang/invoke/VarHandle" ∧ (parseMethodDescriptor yX0_free.desc).map (fun d => d.parameters.length) = some 1 := hy_X0_free.2
theorem hy_X0_begin : yX0_begin.cls = RX0 ∧ yX0_begin.cls ≠ "java/lang/invoke/MethodHandle" ∧ yX0_begin.cls ≠ "java/lang/invoke/VarHandle" ∧ (parseMethodDescriptor yX0_begin.desc).map (fun d => d.parameters.length) = some 1 := by decide +kernel
theorem hyS_X0_begin : yX0_begin.cls ≠ "java/lang/invoke/MethodHandle" ∧ yX0_begin.cls ≠ "java/lang/invoke/VarHandle" ∧ (parseMethodDescriptor yX0_begin.desc).map (fun d => d.parameters.length) = some 1 := hy_X0_begin.2
theorem hy_X0_end : yX0_end.cls = RX0 ∧ yX0_end.cls ≠ "java/lang/invoke/MethodHandle" ∧ yX0_end.cls ≠ "java/lang/invoke/VarHandle" ∧ (parseMethodDescriptor yX0_end.desc).map (fun d => d.parameters.length) = some 1 := by decide +kernel
theorem hyS_X0_end : yX0_end.cls ≠ "java/lang/invoke/MethodHandle" ∧ yX0_end.cls ≠ "java/lang/invoke/VarHandle" ∧ (parseMethodDescriptor yX0_end.desc).map (fun d => d.parameters.length) = some 1 := hy_X0_end.2
theorem hy_X0_comeThrough : yX0_comeThrough.cls = RX0 ∧ yX0_comeThrough.cls ≠ "java/lang/invoke/MethodHandle" ∧ yX0_comeThrough.cls ≠ "java/lang/invoke/VarHandle" ∧ (parseMethodDescriptor yX0_comeThrough.desc).map (fun d => d.parameters.length) = some 2 := by decide +kernel
theorem hyS_X0_comeThrough : yX0_comeThrough.cls ≠ "java/lang/invoke/MethodHandle" ∧ yX0_comeThrough.cls ≠ "java/lang/invoke/VarHandle" ∧ (parseMethodDescriptor yX0_comeThrough.desc).map (fun d => d.parameters.length) = some 2 := hy_X0_comeThrough.2
theorem hy_X0_oneMoreInside : yX0_oneMoreInside.cls = RX0 ∧ yX0_oneMoreInside.cls ≠ "java/lang/invoke/MethodHandle" ∧ yX0_oneMoreInside.cls ≠ "java/lang/invoke/VarHandle" ∧ (parseMethodDescriptor yX0_oneMoreInside.desc).map (fun d => d.parameters.length) = some 0 := by decide +kernel
theorem hyS_X0_oneMoreInside : yX0_oneMoreInside.cls ≠ "java/lang/invoke/MethodHandle" ∧ yX0_oneMoreInside.cls ≠ "java/lang/invoke/VarHandle" ∧ (parseMethodDescriptor yX0_oneMoreInside.desc).map (fun d => d.parameters.length) = some 0 := hy_X0_oneMoreInside.2
theorem hy_X0_oneLessInside : yX0_oneLessInside.cls = RX0 ∧ yX0_oneLessInside.cls ≠ "java/lang/invoke/MethodHandle" ∧ yX0_oneLessInside.cls ≠ "java/lang/invoke/VarHandle" ∧ (parseMethodDescriptor yX0_oneLessInside.desc).map (fun d => d.parameters.length) = some 0 := by decide +kernel
theorem hyS_X0_oneLessInside : yX0_oneLessInside.cls ≠ "java/lang/invoke/MethodHandle" ∧ yX0_oneLessInside.cls ≠ "java/lang/invoke/VarHandle" ∧ (parseMethodDescriptor yX0_oneLessInside.desc).map (fun d => d.parameters.length) = some 0 := hy_X0_oneLessInside.2
theorem hy_X0_becomeInside : yX0_becomeInside.cls = RX0 ∧ yX0_becomeInside.cls ≠ "java/lang/invoke/MethodHandle" ∧ yX0_becomeInside.cls ≠ "java/lang/invoke/VarHandle" ∧ (parseMethodDescriptor yX0_becomeInside.desc).map (fun d => d.parameters.length) = some 1 := by decide +kernel
theorem hyS_X0_becomeInside : yX0_becomeInside.cls ≠ "java/lang/invoke/MethodHandle" ∧ yX0_becomeInside.cls ≠ "java/lang/invoke/VarHandle" ∧ (parseMethodDescriptor yX0_becomeInside.desc).map (fun d => d.parameters.length) = some 1 := hy_X0_becomeInside.2
theorem hy_X0_hasRoomFor : yX0_hasRoomFor.cls = RX0 ∧ yX0_hasRoomFor.cls ≠ "java/lang/invoke/MethodHandle" ∧ yX0_hasRoomFor.cls ≠ "java/lang/invoke/VarHandle" ∧ (parseMethodDescriptor yX0_hasRoomFor.desc).map (fun d => d.parameters.length) = some 1 := by decide +kernel
theorem hyS_X0_hasRoomFor : yX0_hasRoomFor.cls ≠ "java/lang/invoke/MethodHandle" ∧ yX0_hasRoomFor.cls ≠ "java/lang/invoke/VarHandle" ∧ (parseMethodDescriptor yX0_hasRoomFor.desc).map (fun d => d.parameters.length) = some 1 := hy_X0_hasRoomFor.2
theorem hy_X0_goBy : yX0_goBy.cls = RX0 ∧ yX0_goBy.cls ≠ "java/lang/invoke/MethodHandle" ∧ yX0_goBy.cls ≠ "java/lang/invoke/VarHandle" ∧ (parseMethodDescriptor yX0_goBy.desc).map (fun d => d.parameters.length) = some 1 := by decide +kernel
theorem hyS_X0_goBy : yX0_goBy.cls ≠ "java/lang/invoke/MethodHandle" ∧ yX0_goBy.cls ≠ "java/lang/invoke/VarHandle" ∧ (parseMethodDescriptor yX0_goBy.desc).map (fun d => d.parameters.length) = some 1 := hy_X0_goBy.2
theorem hy_X0_isUnderWay : yX0_isUnderWay.cls = RX0 ∧ yX0_isUnderWay.cls ≠ "java/lang/invoke/MethodHandle" ∧ yX0_isUnderWay.cls ≠ "java/lang/invoke/VarHandle" ∧ (parseMethodDescriptor yX0_isUnderWay.desc).map (fun d => d.parameters.length) = some 1 := by decide +kernel
theorem hyS_X0_isUnderWay : yX0_isUnderWay.cls ≠ "java/lang/invoke/MethodHandle" ∧ yX0_isUnderWay.cls ≠ "java/lang/invoke/VarHandle" ∧ (parseMethodDescriptor yX0_isUnderWay.desc).map (fun d => d.parameters.length) = some 1 := hy_X0_isUnderWay.2
theorem hy_X0_isSure : yX0_isSure.cls = RX0 ∧ yX0_isSure.cls ≠ "java/lang/invoke/MethodHandle" ∧ yX0_isSure.cls ≠ "java/lang/invoke/VarHandle" ∧ (parseMethodDescriptor yX0_isSure.desc).map (fun d => d.parameters.length) = some 1 := by decide +kernel
theorem hyS_X0_isSure : yX0_isSure.cls ≠ "java/lang/invoke/MethodHandle" ∧ yX0_isSure.cls ≠ "java/lang/invoke/VarHandle" ∧ (parseMethodDescriptor yX0_isSure.desc).map (fun d => d.parameters.length) = some 1 := hy_X0_isSure.2
theorem hy_X0_placeOf : yX0_placeOf.cls = RX0 ∧ yX0_placeOf.cls ≠ "java/lang/invoke/MethodHandle" ∧ yX0_placeOf.cls ≠ "java/lang/invoke/VarHandle" ∧ (parseMethodDescriptor yX0_placeOf.desc).map (fun d => d.parameters.length) = some 1 := by decide +kernel
theorem hyS_X0_placeOf : yX0_placeOf.cls ≠ "java/lang/invoke/MethodHandle" ∧ yX0_placeOf.cls ≠ "java/lang/invoke/VarHandle" ∧ (parseMethodDescriptor yX0_placeOf.desc).map (fun d => d.parameters.length) = some 1 := hy_X0_placeOf.2
theorem hy_X0_ticksUnderWay : yX0_ticksUnderWay.cls = RX0 ∧ yX0_ticksUnderWay.cls ≠ "java/lang/invoke/MethodHandle" ∧ yX0_ticksUnderWay.cls ≠ "java/lang/invoke/VarHandle" ∧ (parseMethodDescriptor yX0_ticksUnderWay.desc).map (fun d => d.parameters.length) = some 1 := by decide +kernel
theorem hyS_X0_ticksUnderWay : yX0_ticksUnderWay.cls ≠ "java/lang/invoke/MethodHandle" ∧ yX0_ticksUnderWay.cls ≠ "java/lang/invoke/VarHandle" ∧ (parseMethodDescriptor yX0_ticksUnderWay.desc).map (fun d => d.parameters.length) = some 1 := hy_X0_ticksUnderWay.2
theorem hy_X0_isBlocked : yX0_isBlocked.cls = RX0 ∧ yX0_isBlocked.cls ≠ "java/lang/invoke/MethodHandle" ∧ yX0_isBlocked.cls ≠ "java/lang/invoke/VarHandle" ∧ (parseMethodDescriptor yX0_isBlocked.desc).map (fun d => d.parameters.length) = some 1 := by decide +kernel
theorem hyS_X0_isBlocked : yX0_isBlocked.cls ≠ "java/lang/invoke/MethodHandle" ∧ yX0_isBlocked.cls ≠ "java/lang/invoke/VarHandle" ∧ (parseMethodDescriptor yX0_isBlocked.desc).map (fun d => d.parameters.length) = some 1 := hy_X0_isBlocked.2
theorem hy_X0_blockedMask : yX0_blockedMask.cls = RX0 ∧ yX0_blockedMask.cls ≠ "java/lang/invoke/MethodHandle" ∧ yX0_blockedMask.cls ≠ "java/lang/invoke/VarHandle" ∧ (parseMethodDescriptor yX0_blockedMask.desc).map (fun d => d.parameters.length) = some 0 := by decide +kernel
theorem hyS_X0_blockedMask : yX0_blockedMask.cls ≠ "java/lang/invoke/MethodHandle" ∧ yX0_blockedMask.cls ≠ "java/lang/invoke/VarHandle" ∧ (parseMethodDescriptor yX0_blockedMask.desc).map (fun d => d.parameters.length) = some 0 := hy_X0_blockedMask.2
theorem hy_X0_underWayMask : yX0_underWayMask.cls = RX0 ∧ yX0_underWayMask.cls ≠ "java/lang/invoke/MethodHandle" ∧ yX0_underWayMask.cls ≠ "java/lang/invoke/VarHandle" ∧ (parseMethodDescriptor yX0_underWayMask.desc).map (fun d => d.parameters.length) = some 0 := by decide +kernel
theorem hyS_X0_underWayMask : yX0_underWayMask.cls ≠ "java/lang/invoke/MethodHandle" ∧ yX0_underWayMask.cls ≠ "java/lang/invoke/VarHandle" ∧ (parseMethodDescriptor yX0_underWayMask.desc).map (fun d => d.parameters.length) = some 0 := hy_X0_underWayMask.2
theorem hy_X0_sumOfGates : yX0_sumOfGates.cls = RX0 ∧ yX0_sumOfGates.cls ≠ "java/lang/invoke/MethodHandle" ∧ yX0_sumOfGates.cls ≠ "java/lang/invoke/VarHandle" ∧ (parseMethodDescriptor yX0_sumOfGates.desc).map (fun d => d.parameters.length) = some 1 := by decide +kernel
theorem hyS_X0_sumOfGates : yX0_sumOfGates.cls ≠ "java/lang/invoke/MethodHandle" ∧ yX0_sumOfGates.cls ≠ "java/lang/invoke/VarHandle" ∧ (parseMethodDescriptor yX0_sumOfGates.desc).map (fun d => d.parameters.length) = some 1 := hy_X0_sumOfGates.2
theorem hy_X0_passagesThrough : yX0_passagesThrough.cls = RX0 ∧ yX0_passagesThrough.cls ≠ "java/lang/invoke/MethodHandle" ∧ yX0_passagesThrough.cls ≠ "java/lang/invoke/VarHandle" ∧ (parseMethodDescriptor yX0_passagesThrough.desc).map (fun d => d.parameters.length) = some 1 := by decide +kernel
theorem hyS_X0_passagesThrough : yX0_passagesThrough.cls ≠ "java/lang/invoke/MethodHandle" ∧ yX0_passagesThrough.cls ≠ "java/lang/invoke/VarHandle" ∧ (parseMethodDescriptor yX0_passagesThrough.desc).map (fun d => d.parameters.length) = some 1 := hy_X0_passagesThrough.2
theorem hy_X0_tell : yX0_tell.cls = RX0 ∧ yX0_tell.cls ≠ "java/lang/invoke/MethodHandle" ∧ yX0_tell.cls ≠ "java/lang/invoke/VarHandle" ∧ (parseMethodDescriptor yX0_tell.desc).map (fun d => d.parameters.length) = some 2 := by decide +kernel
theorem hyS_X0_tell : yX0_tell.cls ≠ "java/lang/invoke/MethodHandle" ∧ yX0_tell.cls ≠ "java/lang/invoke/VarHandle" ∧ (parseMethodDescriptor yX0_tell.desc).map (fun d => d.parameters.length) = some 2 := hy_X0_tell.2
theorem hy_X1_keep : yX1_keep.cls = RX1 ∧ yX1_keep.cls ≠ "java/lang/invoke/MethodHandle" ∧ yX1_keep.cls ≠ "java/lang/invoke/VarHandle" ∧ (parseMethodDescriptor yX1_keep.desc).map (fun d => d.parameters.length) = some 1 := by decide +kernel
theorem hyS_X1_keep : yX1_keep.cls ≠ "java/lang/invoke/MethodHandle" ∧ yX1_keep.cls ≠ "java/lang/invoke/VarHandle" ∧ (parseMethodDescriptor yX1_keep.desc).map (fun d => d.parameters.length) = some 1 := hy_X1_keep.2
theorem hy_X2_numberOf : yX2_numberOf.cls = RX2 ∧ yX2_numberOf.cls ≠ "java/lang/invoke/MethodHandle" ∧ yX2_numberOf.cls ≠ "java/lang/invoke/VarHandle" ∧ (parseMethodDescriptor yX2_numberOf.desc).map (fun d => d.parameters.length) = some 1 := by decide +kernel
theorem hyS_X2_numberOf : yX2_numberOf.cls ≠ "java/lang/invoke/MethodHandle" ∧ yX2_numberOf.cls ≠ "java/lang/invoke/VarHandle" ∧ (parseMethodDescriptor yX2_numberOf.desc).map (fun d => d.parameters.length) = some 1 := hy_X2_numberOf.2
theorem hy_X2_hasRoomFor : yX2_hasRoomFor.cls = RX2 ∧ yX2_hasRoomFor.cls ≠ "java/lang/invoke/MethodHandle" ∧ yX2_hasRoomFor.cls ≠ "java/lang/invoke/VarHandle" ∧ (parseMethodDescriptor yX2_hasRoomFor.desc).map (fun d => d.parameters.length) = some 1 := by decide +kernel
theorem hyS_X2_hasRoomFor : yX2_hasRoomFor.cls ≠ "java/lang/invoke/MethodHandle" ∧ yX2_hasRoomFor.cls ≠ "java/lang/invoke/VarHandle" ∧ (parseMethodDescriptor yX2_hasRoomFor.desc).map (fun d => d.parameters.length) = some 1 := hy_X2_hasRoomFor.2
theorem hy_X2_append : yX2_append.cls = RX2 ∧ yX2_append.cls ≠ "java/lang/invoke/MethodHandle" ∧ yX2_append.cls ≠ "java/lang/invoke/VarHandle" ∧ (parseMethodDescriptor yX2_append.desc).map (fun d => d.parameters.length) = some 2 := by decide +kernel
theorem hyS_X2_append : yX2_append.cls ≠ "java/lang/invoke/MethodHandle" ∧ yX2_append.cls ≠ "java/lang/invoke/VarHandle" ∧ (parseMethodDescriptor yX2_append.desc).map (fun d => d.parameters.length) = some 2 := hy_X2_append.2
theorem hy_X2_empty : yX2_empty.cls = RX2 ∧ yX2_empty.cls ≠ "java/lang/invoke/MethodHandle" ∧ yX2_empty.cls ≠ "java/lang/invoke/VarHandle" ∧ (parseMethodDescriptor yX2_empty.desc).map (fun d => d.parameters.length) = some 0 := by decide +kernel
theorem hyS_X2_empty : yX2_empty.cls ≠ "java/lang/invoke/MethodHandle" ∧ yX2_empty.cls ≠ "java/lang/invoke/VarHandle" ∧ (parseMethodDescriptor yX2_empty.desc).map (fun d => d.parameters.length) = some 0 := hy_X2_empty.2
theorem hy_X2_firstFault : yX2_firstFault.cls = RX2 ∧ yX2_firstFault.cls ≠ "java/lang/invoke/MethodHandle" ∧ yX2_firstFault.cls ≠ "java/lang/invoke/VarHandle" ∧ (parseMethodDescriptor yX2_firstFault.desc).map (fun d => d.parameters.length) = some 0 := by decide +kernel
theorem hyS_X2_firstFault : yX2_firstFault.cls ≠ "java/lang/invoke/MethodHandle" ∧ yX2_firstFault.cls ≠ "java/lang/invoke/VarHandle" ∧ (parseMethodDescriptor yX2_firstFault.desc).map (fun d => d.parameters.length) = some 0 := hy_X2_firstFault.2
theorem hy_X2_stateAfter : yX2_stateAfter.cls = RX2 ∧ yX2_stateAfter.cls ≠ "java/lang/invoke/MethodHandle" ∧ yX2_stateAfter.cls ≠ "java/lang/invoke/VarHandle" ∧ (parseMethodDescriptor yX2_stateAfter.desc).map (fun d => d.parameters.length) = some 2 := by decide +kernel
theorem hyS_X2_stateAfter : yX2_stateAfter.cls ≠ "java/lang/invoke/MethodHandle" ∧ yX2_stateAfter.cls ≠ "java/lang/invoke/VarHandle" ∧ (parseMethodDescriptor yX2_stateAfter.desc).map (fun d => d.parameters.length) = some 2 := hy_X2_stateAfter.2
theorem hy_X2_afterEvent : yX2_afterEvent.cls = RX2 ∧ yX2_afterEvent.cls ≠ "java/lang/invoke/MethodHandle" ∧ yX2_afterEvent.cls ≠ "java/lang/invoke/VarHandle" ∧ (parseMethodDescriptor yX2_afterEvent.desc).map (fun d => d.parameters.length) = some 1 := by decide +kernel
theorem hyS_X2_afterEvent : yX2_afterEvent.cls ≠ "java/lang/invoke/MethodHandle" ∧ yX2_afterEvent.cls ≠ "java/lang/invoke/VarHandle" ∧ (parseMethodDescriptor yX2_afterEvent.desc).map (fun d => d.parameters.length) = some 1 := hy_X2_afterEvent.2
theorem hy_X2_isDigit : yX2_isDigit.cls = RX2 ∧ yX2_isDigit.cls ≠ "java/lang/invoke/MethodHandle" ∧ yX2_isDigit.cls ≠ "java/lang/invoke/VarHandle" ∧ (parseMethodDescriptor yX2_isDigit.desc).map (fun d => d.parameters.length) = some 1 := by decide +kernel
theorem hyS_X2_isDigit : yX2_isDigit.cls ≠ "java/lang/invoke/MethodHandle" ∧ yX2_isDigit.cls ≠ "java/lang/invoke/VarHandle" ∧ (parseMethodDescriptor yX2_isDigit.desc).map (fun d => d.parameters.length) = some 1 := hy_X2_isDigit.2
theorem hy_X2_isGateDigit : yX2_isGateDigit.cls = RX2 ∧ yX2_isGateDigit.cls ≠ "java/lang/invoke/MethodHandle" ∧ yX2_isGateDigit.cls ≠ "java/lang/invoke/VarHandle" ∧ (parseMethodDescriptor yX2_isGateDigit.desc).map (fun d => d.parameters.length) = some 1 := by decide +kernel
theorem hyS_X2_isGateDigit : yX2_isGateDigit.cls ≠ "java/lang/invoke/MethodHandle" ∧ yX2_isGateDigit.cls ≠ "java/lang/invoke/VarHandle" ∧ (parseMethodDescriptor yX2_isGateDigit.desc).map (fun d => d.parameters.length) = some 1 := hy_X2_isGateDigit.2
theorem hy_X2_beamOf : yX2_beamOf.cls = RX2 ∧ yX2_beamOf.cls ≠ "java/lang/invoke/MethodHandle" ∧ yX2_beamOf.cls ≠ "java/lang/invoke/VarHandle" ∧ (parseMethodDescriptor yX2_beamOf.desc).map (fun d => d.parameters.length) = some 1 := by decide +kernel
theorem hyS_X2_beamOf : yX2_beamOf.cls ≠ "java/lang/invoke/MethodHandle" ∧ yX2_beamOf.cls ≠ "java/lang/invoke/VarHandle" ∧ (parseMethodDescriptor yX2_beamOf.desc).map (fun d => d.parameters.length) = some 1 := hy_X2_beamOf.2
theorem hy_X2_happenIn : yX2_happenIn.cls = RX2 ∧ yX2_happenIn.cls ≠ "java/lang/invoke/MethodHandle" ∧ yX2_happenIn.cls ≠ "java/lang/invoke/VarHandle" ∧ (parseMethodDescriptor yX2_happenIn.desc).map (fun d => d.parameters.length) = some 1 := by decide +kernel
theorem hyS_X2_happenIn : yX2_happenIn.cls ≠ "java/lang/invoke/MethodHandle" ∧ yX2_happenIn.cls ≠ "java/lang/invoke/VarHandle" ∧ (parseMethodDescriptor yX2_happenIn.desc).map (fun d => d.parameters.length) = some 1 := hy_X2_happenIn.2
theorem hy_X2_changeBeams : yX2_changeBeams.cls = RX2 ∧ yX2_changeBeams.cls ≠ "java/lang/invoke/MethodHandle" ∧ yX2_changeBeams.cls ≠ "java/lang/invoke/VarHandle" ∧ (parseMethodDescriptor yX2_changeBeams.desc).map (fun d => d.parameters.length) = some 3 := by decide +kernel
theorem hyS_X2_changeBeams : yX2_changeBeams.cls ≠ "java/lang/invoke/MethodHandle" ∧ yX2_changeBeams.cls ≠ "java/lang/invoke/VarHandle" ∧ (parseMethodDescriptor yX2_changeBeams.desc).map (fun d => d.parameters.length) = some 3 := hy_X2_changeBeams.2
theorem hy_X2_numberIn : yX2_numberIn.cls = RX2 ∧ yX2_numberIn.cls ≠ "java/lang/invoke/MethodHandle" ∧ yX2_numberIn.cls ≠ "java/lang/invoke/VarHandle" ∧ (parseMethodDescriptor yX2_numberIn.desc).map (fun d => d.parameters.length) = some 2 := by decide +kernel
theorem hyS_X2_numberIn : yX2_numberIn.cls ≠ "java/lang/invoke/MethodHandle" ∧ yX2_numberIn.cls ≠ "java/lang/invoke/VarHandle" ∧ (parseMethodDescriptor yX2_numberIn.desc).map (fun d => d.parameters.length) = some 2 := hy_X2_numberIn.2
theorem hy_X2_letGoBy : yX2_letGoBy.cls = RX2 ∧ yX2_letGoBy.cls ≠ "java/lang/invoke/MethodHandle" ∧ yX2_letGoBy.cls ≠ "java/lang/invoke/VarHandle" ∧ (parseMethodDescriptor yX2_letGoBy.desc).map (fun d => d.parameters.length) = some 2 := by decide +kernel
theorem hyS_X2_letGoBy : yX2_letGoBy.cls ≠ "java/lang/invoke/MethodHandle" ∧ yX2_letGoBy.cls ≠ "java/lang/invoke/VarHandle" ∧ (parseMethodDescriptor yX2_letGoBy.desc).map (fun d => d.parameters.length) = some 2 := hy_X2_letGoBy.2
theorem hy_X3_set : yX3_set.cls = RX3 ∧ yX3_set.cls ≠ "java/lang/invoke/MethodHandle" ∧ yX3_set.cls ≠ "java/lang/invoke/VarHandle" ∧ (parseMethodDescriptor yX3_set.desc).map (fun d => d.parameters.length) = some 2 := by decide +kernel
theorem hyS_X3_set : yX3_set.cls ≠ "java/lang/invoke/MethodHandle" ∧ yX3_set.cls ≠ "java/lang/invoke/VarHandle" ∧ (parseMethodDescriptor yX3_set.desc).map (fun d => d.parameters.length) = some 2 := hy_X3_set.2
theorem hy_X3_event : yX3_event.cls = RX3 ∧ yX3_event.cls ≠ "java/lang/invoke/MethodHandle" ∧ yX3_event.cls ≠ "java/lang/invoke/VarHandle" ∧ (parseMethodDescriptor yX3_event.desc).map (fun d => d.parameters.length) = some 2 := by decide +kernel
theorem hyS_X3_event : yX3_event.cls ≠ "java/lang/invoke/MethodHandle" ∧ yX3_event.cls ≠ "java/lang/invoke/VarHandle" ∧ (parseMethodDescriptor yX3_event.desc).map (fun d => d.parameters.length) = some 2 := hy_X3_event.2
theorem hy_X3_pass : yX3_pass.cls = RX3 ∧ yX3_pass.cls ≠ "java/lang/invoke/MethodHandle" ∧ yX3_pass.cls ≠ "java/lang/invoke/VarHandle" ∧ (parseMethodDescriptor yX3_pass.desc).map (fun d => d.parameters.length) = some 1 := by decide +kernel
theorem hyS_X3_pass : yX3_pass.cls ≠ "java/lang/invoke/MethodHandle" ∧ yX3_pass.cls ≠ "java/lang/invoke/VarHandle" ∧ (parseMethodDescriptor yX3_pass.desc).map (fun d => d.parameters.length) = some 1 := hy_X3_pass.2
theorem hy_X3_read : yX3_read.cls = RX3 ∧ yX3_read.cls ≠ "java/lang/invoke/MethodHandle" ∧ yX3_read.cls ≠ "java/lang/invoke/VarHandle" ∧ (parseMethodDescriptor yX3_read.desc).map (fun d => d.parameters.length) = some 0 := by decide +kernel
theorem hyS_X3_read : yX3_read.cls ≠ "java/lang/invoke/MethodHandle" ∧ yX3_read.cls ≠ "java/lang/invoke/VarHandle" ∧ (parseMethodDescriptor yX3_read.desc).map (fun d => d.parameters.length) = some 0 := hy_X3_read.2
theorem hy_X3_correct : yX3_correct.cls = RX3 ∧ yX3_correct.cls ≠ "java/lang/invoke/MethodHandle" ∧ yX3_correct.cls ≠ "java/lang/invoke/VarHandle" ∧ (parseMethodDescriptor yX3_correct.desc).map (fun d => d.parameters.length) = some 1 := by decide +kernel
theorem hyS_X3_correct : yX3_correct.cls ≠ "java/lang/invoke/MethodHandle" ∧ yX3_correct.cls ≠ "java/lang/invoke/VarHandle" ∧ (parseMethodDescriptor yX3_correct.desc).map (fun d => d.parameters.length) = some 1 := hy_X3_correct.2
theorem hy_X3_clear : yX3_clear.cls = RX3 ∧ yX3_clear.cls ≠ "java/lang/invoke/MethodHandle" ∧ yX3_clear.cls ≠ "java/lang/invoke/VarHandle" ∧ (parseMethodDescriptor yX3_clear.desc).map (fun d => d.parameters.length) = some 1 := by decide +kernel
theorem hyS_X3_clear : yX3_clear.cls ≠ "java/lang/invoke/MethodHandle" ∧ yX3_clear.cls ≠ "java/lang/invoke/VarHandle" ∧ (parseMethodDescriptor yX3_clear.desc).map (fun d => d.parameters.length) = some 1 := hy_X3_clear.2
theorem hy_X3_gate : yX3_gate.cls = RX3 ∧ yX3_gate.cls ≠ "java/lang/invoke/MethodHandle" ∧ yX3_gate.cls ≠ "java/lang/invoke/VarHandle" ∧ (parseMethodDescriptor yX3_gate.desc).map (fun d => d.parameters.length) = some 2 := by decide +kernel
theorem hyS_X3_gate : yX3_gate.cls ≠ "java/lang/invoke/MethodHandle" ∧ yX3_gate.cls ≠ "java/lang/invoke/VarHandle" ∧ (parseMethodDescriptor yX3_gate.desc).map (fun d => d.parameters.length) = some 2 := hy_X3_gate.2
theorem hy_X3_count : yX3_count.cls = RX3 ∧ yX3_count.cls ≠ "java/lang/invoke/MethodHandle" ∧ yX3_count.cls ≠ "java/lang/invoke/VarHandle" ∧ (parseMethodDescriptor yX3_count.desc).map (fun d => d.parameters.length) = some 1 := by decide +kernel
theorem hyS_X3_count : yX3_count.cls ≠ "java/lang/invoke/MethodHandle" ∧ yX3_count.cls ≠ "java/lang/invoke/VarHandle" ∧ (parseMethodDescriptor yX3_count.desc).map (fun d => d.parameters.length) = some 1 := hy_X3_count.2
theorem hy_X3_mean : yX3_mean.cls = RX3 ∧ yX3_mean.cls ≠ "java/lang/invoke/MethodHandle" ∧ yX3_mean.cls ≠ "java/lang/invoke/VarHandle" ∧ (parseMethodDescriptor yX3_mean.desc).map (fun d => d.parameters.length) = some 1 := by decide +kernel
theorem hyS_X3_mean : yX3_mean.cls ≠ "java/lang/invoke/MethodHandle" ∧ yX3_mean.cls ≠ "java/lang/invoke/VarHandle" ∧ (parseMethodDescriptor yX3_mean.desc).map (fun d => d.parameters.length) = some 1 := hy_X3_mean.2
theorem hy_X3_busiest : yX3_busiest.cls = RX3 ∧ yX3_busiest.cls ≠ "java/lang/invoke/MethodHandle" ∧ yX3_busiest.cls ≠ "java/lang/invoke/VarHandle" ∧ (parseMethodDescriptor yX3_busiest.desc).map (fun d => d.parameters.length) = some 0 := by decide +kernel
theorem hyS_X3_busiest : yX3_busiest.cls ≠ "java/lang/invoke/MethodHandle" ∧ yX3_busiest.cls ≠ "java/lang/invoke/VarHandle" ∧ (parseMethodDescriptor yX3_busiest.desc).map (fun d => d.parameters.length) = some 0 := hy_X3_busiest.2
theorem hy_X3_eventsTo : yX3_eventsTo.cls = RX3 ∧ yX3_eventsTo.cls ≠ "java/lang/invoke/MethodHandle" ∧ yX3_eventsTo.cls ≠ "java/lang/invoke/VarHandle" ∧ (parseMethodDescriptor yX3_eventsTo.desc).map (fun d => d.parameters.length) = some 2 := by decide +kernel
theorem hyS_X3_eventsTo : yX3_eventsTo.cls ≠ "java/lang/invoke/MethodHandle" ∧ yX3_eventsTo.cls ≠ "java/lang/invoke/VarHandle" ∧ (parseMethodDescriptor yX3_eventsTo.desc).map (fun d => d.parameters.length) = some 2 := hy_X3_eventsTo.2
theorem hy_X3_untilBlocked : yX3_untilBlocked.cls = RX3 ∧ yX3_untilBlocked.cls ≠ "java/lang/invoke/MethodHandle" ∧ yX3_untilBlocked.cls ≠ "java/lang/invoke/VarHandle" ∧ (parseMethodDescriptor yX3_untilBlocked.desc).map (fun d => d.parameters.length) = some 0 := by decide +kernel
theorem hyS_X3_untilBlocked : yX3_untilBlocked.cls ≠ "java/lang/invoke/MethodHandle" ∧ yX3_untilBlocked.cls ≠ "java/lang/invoke/VarHandle" ∧ (parseMethodDescriptor yX3_untilBlocked.desc).map (fun d => d.parameters.length) = some 0 := hy_X3_untilBlocked.2
theorem hy_X3_put : yX3_put.cls = RX3 ∧ yX3_put.cls ≠ "java/lang/invoke/MethodHandle" ∧ yX3_put.cls ≠ "java/lang/invoke/VarHandle" ∧ (parseMethodDescriptor yX3_put.desc).map (fun d => d.parameters.length) = some 1 := by decide +kernel
theorem hyS_X3_put : yX3_put.cls ≠ "java/lang/invoke/MethodHandle" ∧ yX3_put.cls ≠ "java/lang/invoke/VarHandle" ∧ (parseMethodDescriptor yX3_put.desc).map (fun d => d.parameters.length) = some 1 := hy_X3_put.2
theorem hy_X3_wipe : yX3_wipe.cls = RX3 ∧ yX3_wipe.cls ≠ "java/lang/invoke/MethodHandle" ∧ yX3_wipe.cls ≠ "java/lang/invoke/VarHandle" ∧ (parseMethodDescriptor yX3_wipe.desc).map (fun d => d.parameters.length) = some 0 := by decide +kernel
theorem hyS_X3_wipe : yX3_wipe.cls ≠ "java/lang/invoke/MethodHandle" ∧ yX3_wipe.cls ≠ "java/lang/invoke/VarHandle" ∧ (parseMethodDescriptor yX3_wipe.desc).map (fun d => d.parameters.length) = some 0 := hy_X3_wipe.2
theorem hy_X3_save : yX3_save.cls = RX3 ∧ yX3_save.cls ≠ "java/lang/invoke/MethodHandle" ∧ yX3_save.cls ≠ "java/lang/invoke/VarHandle" ∧ (parseMethodDescriptor yX3_save.desc).map (fun d => d.parameters.length) = some 1 := by decide +kernel
theorem hyS_X3_save : yX3_save.cls ≠ "java/lang/invoke/MethodHandle" ∧ yX3_save.cls ≠ "java/lang/invoke/VarHandle" ∧ (parseMethodDescriptor yX3_save.desc).map (fun d => d.parameters.length) = some 1 := hy_X3_save.2
theorem hy_X3_restore : yX3_restore.cls = RX3 ∧ yX3_restore.cls ≠ "java/lang/invoke/MethodHandle" ∧ yX3_restore.cls ≠ "java/lang/invoke/VarHandle" ∧ (parseMethodDescriptor yX3_restore.desc).map (fun d => d.parameters.length) = some 1 := by decide +kernel
theorem hyS_X3_restore : yX3_restore.cls ≠ "java/lang/invoke/MethodHandle" ∧ yX3_restore.cls ≠ "java/lang/invoke/VarHandle" ∧ (parseMethodDescriptor yX3_restore.desc).map (fun d => d.parameters.length) = some 1 := hy_X3_restore.2
theorem hy_X3_isNoGate : yX3_isNoGate.cls = RX3 ∧ yX3_isNoGate.cls ≠ "java/lang/invoke/MethodHandle" ∧ yX3_isNoGate.cls ≠ "java/lang/invoke/VarHandle" ∧ (parseMethodDescriptor yX3_isNoGate.desc).map (fun d => d.parameters.length) = some 1 := by decide +kernel
theorem hyS_X3_isNoGate : yX3_isNoGate.cls ≠ "java/lang/invoke/MethodHandle" ∧ yX3_isNoGate.cls ≠ "java/lang/invoke/VarHandle" ∧ (parseMethodDescriptor yX3_isNoGate.desc).map (fun d => d.parameters.length) = some 1 := hy_X3_isNoGate.2
theorem hy_X3_isNoSlot : yX3_isNoSlot.cls = RX3 ∧ yX3_isNoSlot.cls ≠ "java/lang/invoke/MethodHandle" ∧ yX3_isNoSlot.cls ≠ "java/lang/invoke/VarHandle" ∧ (parseMethodDescriptor yX3_isNoSlot.desc).map (fun d => d.parameters.length) = some 1 := by decide +kernel
theorem hyS_X3_isNoSlot : yX3_isNoSlot.cls ≠ "java/lang/invoke/MethodHandle" ∧ yX3_isNoSlot.cls ≠ "java/lang/invoke/VarHandle" ∧ (parseMethodDescriptor yX3_isNoSlot.desc).map (fun d => d.parameters.length) = some 1 := hy_X3_isNoSlot.2
theorem hy_X3_copyRow : yX3_copyRow.cls = RX3 ∧ yX3_copyRow.cls ≠ "java/lang/invoke/MethodHandle" ∧ yX3_copyRow.cls ≠ "java/lang/invoke/VarHandle" ∧ (parseMethodDescriptor yX3_copyRow.desc).map (fun d => d.parameters.length) = some 2 := by decide +kernel
theorem hyS_X3_copyRow : yX3_copyRow.cls ≠ "java/lang/invoke/MethodHandle" ∧ yX3_copyRow.cls ≠ "java/lang/invoke/VarHandle" ∧ (parseMethodDescriptor yX3_copyRow.desc).map (fun d => d.parameters.length) = some 2 := hy_X3_copyRow.2
theorem hy_J6_bitCount_0f7a4 : yJ6_bitCount_0f7a4.cls = RJ6 ∧ yJ6_bitCount_0f7a4.cls ≠ "java/lang/invoke/MethodHandle" ∧ yJ6_bitCount_0f7a4.cls ≠ "java/lang/invoke/VarHandle" ∧ (parseMethodDescriptor yJ6_bitCount_0f7a4.desc).map (fun d => d.parameters.length) = some 1 := by decide +kernel
theorem hyS_J6_bitCount_0f7a4 : yJ6_bitCount_0f7a4.cls ≠ "java/lang/invoke/MethodHandle" ∧ yJ6_bitCount_0f7a4.cls ≠ "java/lang/invoke/VarHandle" ∧ (parseMethodDescriptor yJ6_bitCount_0f7a4.desc).map (fun d => d.parameters.length) = some 1 := hy_J6_bitCount_0f7a4.2
theorem hy_J9_abs_0f7a4 : yJ9_abs_0f7a4.cls = RJ9 ∧ yJ9_abs_0f7a4.cls ≠ "java/lang/invoke/MethodHandle" ∧ yJ9_abs_0f7a4.cls ≠ "java/lang/invoke/VarHandle" ∧ (parseMethodDescriptor yJ9_abs_0f7a4.desc).map (fun d => d.parameters.length) = some 1 := by decide +kernel
theorem hyS_J9_abs_0f7a4 : yJ9_abs_0f7a4.cls ≠ "java/lang/invoke/MethodHandle" ∧ yJ9_abs_0f7a4.cls ≠ "java/lang/invoke/VarHandle" ∧ (parseMethodDescriptor yJ9_abs_0f7a4.desc).map (fun d => d.parameters.length) = some 1 := hy_J9_abs_0f7a4.2
theorem hy_J9_min_7cf53 : yJ9_min_7cf53.cls = RJ9 ∧ yJ9_min_7cf53.cls ≠ "java/lang/invoke/MethodHandle" ∧ yJ9_min_7cf53.cls ≠ "java/lang/invoke/VarHandle" ∧ (parseMethodDescriptor yJ9_min_7cf53.desc).map (fun d => d.parameters.length) = some 2 := by decide +kernel
theorem hyS_J9_min_7cf53 : yJ9_min_7cf53.cls ≠ "java/lang/invoke/MethodHandle" ∧ yJ9_min_7cf53.cls ≠ "java/lang/invoke/VarHandle" ∧ (parseMethodDescriptor yJ9_min_7cf53.desc).map (fun d => d.parameters.length) = some 2 := hy_J9_min_7cf53.2
set_option maxHeartbeats 4000000 in
set_option maxRecDepth 100000 in
/-- Hall.partOf -/
theorem c_X0_partOf (l : Launch) (D : va_G) (cI cC cZ cG : ClassId) (g : Nat) : Met l yX0_partOf wsX0_partOf ({ frames := 0, cells := 0, slots := 0, locals := 0 } : Room) (b_R D (b_T cI cC cZ cG) [] [.int (nI g)]) (vp_Si (fun r => r = nI (8 + g * 13))) 0 0 (fun _ => False) := by
  refine b_enterR (cc := cX0_partOf) (maxL := 1) (ret := (some .int)) (by decide) rfl (Nat.le_of_ble_eq_true rfl) ?_
  intro p e s m below meth c ls hx hb hr hml hown hts hlocks hP hK hl Q hQ
  have hown : s.vm.findClass RX0 = some m.cls := hown
  have hl : lv_has ls 1 [(0, .int (nI g))] := hl
  refine lv_bipush (pc := 0) (v := 8) hx hb dX0_partOf_0 (by decide) ?_
  refine lv_iload_n (pc := 2) hx hb dX0_partOf_2 rfl (lv_at hl 0 rfl) ?_
  refine lv_bipush (pc := 3) (v := 13) hx hb dX0_partOf_3 (by decide) ?_
  refine lv_imul (pc := 5) hx hb dX0_partOf_5 ?_
  refine b_re (pk_mul g 13) ?_
  refine lv_iadd (pc := 6) hx hb dX0_partOf_6 ?_
  refine b_re (nI_add 8 (g * 13)) ?_
  subst hQ
  exact b_retR hx hb hr hlocks (by first | rfl | (simp only [])) dX0_partOf_7
theorem hw_X0_becomeInside_0 : (.fieldLink RX0 11 "BeamTurnstiles$Hall" "row" "[I" : Cond) ∈ wsX0_becomeInside := by decide +kernel
theorem hi_X0_becomeInside_X0 : ∀ w ∈ wsX00, w ∈ wsX0_becomeInside := by decide +kernel
set_option maxHeartbeats 4000000 in
set_option maxRecDepth 100000 in
/-- Hall.becomeInside -/
theorem c_X0_becomeInside (l : Launch) (D : va_G) (cI cC cZ cG : ClassId) (tb lo hi : Nat) (sz : Nat) (h : Nat) (r : Nat) (f : Nat → Int32) (x : Int32) : Met l yX0_becomeInside wsX0_becomeInside ({ frames := 0, cells := 0, slots := 0, locals := 0 } : Room) (b_W D (b_T cI cC cZ cG) (b_X tb lo hi) [(h, .inr (0, [.ref r])), (r, .inl (cI, 86, .inl f))] sz [.ref h, .int x]) (b_Qv D [(h, .inr (0, [.ref r])), (r, .inl (cI, 86, .inl (h_become f x)))] (va_A [(h, .inr (0, [.ref r])), (r, .inl (cI, 86, .inl f))] sz)) 0 0 (va_A [(h, .inr (0, [.ref r])), (r, .inl (cI, 86, .inl f))] sz) := by
  refine b_enterW (Qc := fun A => b_Qv D [(h, .inr (0, [.ref r])), (r, .inl (cI, 86, .inl (h_become f x)))] A) (cc := cX0_becomeInside) (maxL := 2) (ret := none) (by decide) rfl (Nat.le_of_ble_eq_true rfl) ?_
  intro p e s m below meth c ls A hx hb hr hml hown hts hlocks hname hP hK hD hA hS hX hl Q hQ
  have hown : s.vm.findClass RX0 = some m.cls := hown
  have hl : lv_has ls 2 [(0, .ref h), (1, .int x)] := hl
  refine lv_aload_n (pc := 0) hx hb dX0_becomeInside_0 rfl (lv_at hl 0 rfl) ?_
  refine va_get (pc := 1) (D := D) (ci := 0) (v := .ref r) (C := RX0) (T := TX0) (N := 1) hx hb hts hi_X0_becomeInside_X0 hown hK hP 0 rfl rfl 0 (by decide) (hts _ hw_X0_becomeInside_0) (fun _ h9 => h9) rfl dX0_becomeInside_1 ?_
  refine lv_iconst (pc := 4) (v := 4) hx hb dX0_becomeInside_4 (by decide) ?_
  refine lv_iload_n (pc := 5) hx hb dX0_becomeInside_5 rfl (lv_at hl 1 rfl) ?_
  refine b_iast (pc := 6) hx hb hK hP hD hS 1 0 rfl rfl 4 rfl (by omega) (by decide) dX0_becomeInside_6 (fun H locs hP hD hS => ?_)
  obtain ⟨f_1, ef_1⟩ : ∃ z : Nat → Int32, z = upd f 4 x := ⟨_, rfl⟩
  have hP : va_P D vwCl [(h, .inr (0, [.ref r])), (r, .inl (cI, 86, .inl f_1))] H := by rw [ef_1]; exact hP
  have hD : va_D A [(h, .inr (0, [.ref r])), (r, .inl (cI, 86, .inl f_1))] := by rw [ef_1]; exact hD
  refine lv_iload_n (pc := 7) hx hb dX0_becomeInside_7 rfl (lv_at hl 1 rfl) ?_
  refine lv_aload_n (pc := 8) hx hb dX0_becomeInside_8 rfl (lv_at hl 0 rfl) ?_
  refine va_get (pc := 9) (D := D) (ci := 0) (v := .ref r) (C := RX0) (T := TX0) (N := 1) hx hb hts hi_X0_becomeInside_X0 hown hK hP 0 rfl rfl 0 (by decide) (hts _ hw_X0_becomeInside_0) (fun _ h9 => h9) rfl dX0_becomeInside_9 ?_
  refine lv_iconst (pc := 12) (v := 5) hx hb dX0_becomeInside_12 (by decide) ?_
  refine b_iald (pc := 13) hx hb hK hP 1 0 rfl rfl 5 rfl (by omega) (by decide) dX0_becomeInside_13 ?_
  refine lv_icmp_le (pc := 14) (tgt := 24) hx hb dX0_becomeInside_14 (by decide) (fun c_2 => ?_) (fun c_2 => ?_)
  · skip
    have c_2 : x ≤ (f_1 5) := c_2
    subst ef_1
    subst hQ
    exact b_retV hx hb hr hlocks hS (by first | exact hP | (refine (b_eqP ?_ hP); simp only [h_become, if_pos c_2])) dX0_becomeInside_24
  · skip
    have c_2 : ¬ (x ≤ (f_1 5)) := c_2
    refine lv_aload_n (pc := 17) hx hb dX0_becomeInside_17 rfl (lv_at hl 0 rfl) ?_
    refine va_get (pc := 18) (D := D) (ci := 0) (v := .ref r) (C := RX0) (T := TX0) (N := 1) hx hb hts hi_X0_becomeInside_X0 hown hK hP 0 rfl rfl 0 (by decide) (hts _ hw_X0_becomeInside_0) (fun _ h9 => h9) rfl dX0_becomeInside_18 ?_
    refine lv_iconst (pc := 21) (v := 5) hx hb dX0_becomeInside_21 (by decide) ?_
    refine lv_iload_n (pc := 22) hx hb dX0_becomeInside_22 rfl (lv_at hl 1 rfl) ?_
    refine b_iast (pc := 23) hx hb hK hP hD hS 1 0 rfl rfl 5 rfl (by omega) (by decide) dX0_becomeInside_23 (fun H locs hP hD hS => ?_)
    obtain ⟨f_3, ef_3⟩ : ∃ z : Nat → Int32, z = upd f_1 5 x := ⟨_, rfl⟩
    have hP : va_P D vwCl [(h, .inr (0, [.ref r])), (r, .inl (cI, 86, .inl f_3))] H := by rw [ef_3]; exact hP
    have hD : va_D A [(h, .inr (0, [.ref r])), (r, .inl (cI, 86, .inl f_3))] := by rw [ef_3]; exact hD
    subst ef_1
    subst ef_3
    subst hQ
    exact b_retV hx hb hr hlocks hS (by first | exact hP | (refine (b_eqP ?_ hP); simp only [h_become, if_neg c_2])) dX0_becomeInside_24
theorem hw_X0_oneMoreInside_0 : (.fieldLink RX0 11 "BeamTurnstiles$Hall" "row" "[I" : Cond) ∈ wsX0_oneMoreInside := by decide +kernel
theorem hi_X0_oneMoreInside_X0 : ∀ w ∈ wsX00, w ∈ wsX0_oneMoreInside := by decide +kernel
set_option maxHeartbeats 4000000 in
set_option maxRecDepth 100000 in
/-- Hall.oneMoreInside -/
theorem c_X0_oneMoreInside (l : Launch) (D : va_G) (cI cC cZ cG : ClassId) (tb lo hi : Nat) (sz : Nat) (h : Nat) (r : Nat) (f : Nat → Int32) : Met l yX0_oneMoreInside wsX0_oneMoreInside ({ frames := 1, cells := 0, slots := 0, locals := 21 } : Room) (b_W D (b_T cI cC cZ cG) (b_X tb lo hi) [(h, .inr (0, [.ref r])), (r, .inl (cI, 86, .inl f))] sz [.ref h]) (b_Qv D [(h, .inr (0, [.ref r])), (r, .inl (cI, 86, .inl (h_more f)))] (va_A [(h, .inr (0, [.ref r])), (r, .inl (cI, 86, .inl f))] sz)) 0 0 (va_A [(h, .inr (0, [.ref r])), (r, .inl (cI, 86, .inl f))] sz) := by
  refine b_enterW (Qc := fun A => b_Qv D [(h, .inr (0, [.ref r])), (r, .inl (cI, 86, .inl (h_more f)))] A) (cc := cX0_oneMoreInside) (maxL := 1) (ret := none) (by decide) rfl (Nat.le_of_ble_eq_true rfl) ?_
  intro p e s m below meth c ls A hx hb hr hml hown hts hlocks hname hP hK hD hA hS hX hl Q hQ
  have hown : s.vm.findClass RX0 = some m.cls := hown
  have hl : lv_has ls 1 [(0, .ref h)] := hl
  refine lv_aload_n (pc := 0) hx hb dX0_oneMoreInside_0 rfl (lv_at hl 0 rfl) ?_
  refine lv_aload_n (pc := 1) hx hb dX0_oneMoreInside_1 rfl (lv_at hl 0 rfl) ?_
  refine va_get (pc := 2) (D := D) (ci := 0) (v := .ref r) (C := RX0) (T := TX0) (N := 1) hx hb hts hi_X0_oneMoreInside_X0 hown hK hP 0 rfl rfl 0 (by decide) (hts _ hw_X0_oneMoreInside_0) (fun _ h9 => h9) rfl dX0_oneMoreInside_2 ?_
  refine lv_iconst (pc := 5) (v := 4) hx hb dX0_oneMoreInside_5 (by decide) ?_
  refine b_iald (pc := 6) hx hb hK hP 1 0 rfl rfl 4 rfl (by omega) (by decide) dX0_oneMoreInside_6 ?_
  refine lv_iconst (pc := 7) (v := 1) hx hb dX0_oneMoreInside_7 (by decide) ?_
  refine lv_iadd (pc := 8) hx hb dX0_oneMoreInside_8 ?_
  refine b_cV (pc := 9) (w1 := [(h, .inr (0, [.ref r])), (r, .inl (cI, 86, .inl (h_become f ((f 4) + 1))))]) (va_runV (As := [.int ((f 4) + 1)]) (rest := []) ⟨hx, hb, hml, hown, hts⟩ (c_X0_becomeInside l D cI cC cZ cG tb lo hi s.heap.size h r f ((f 4) + 1)) (cwV 1 hts gX0_oneMoreInside_X0_becomeInside rfl rfl rfl hy_X0_becomeInside ⟨Nat.le_of_ble_eq_true rfl, Nat.le_of_ble_eq_true rfl⟩) (b_pWV (wc := [(h, .inr (0, [.ref r])), (r, .inl (cI, 86, .inl f))]) hK hP hD (b_Xok_X tb lo hi) [0, 1] rfl (by decide) rfl (b_Xc hX hD hS hA [0, 1] rfl) (ci := 0) (q0 := 0) rfl rfl) rfl rfl hl.1 rfl (lv_room (Nat.le_of_ble_eq_true rfl)) dX0_oneMoreInside_9 ⟨Nat.zero_le _, Nat.zero_le _⟩) hP hD hS hA [0, 1] rfl rfl (fun H locs hP hD hS => ?_)
  have hP : va_P D vwCl [(h, .inr (0, [.ref r])), (r, .inl (cI, 86, .inl (h_become f ((f 4) + 1))))] H := hP
  have hD : va_D A [(h, .inr (0, [.ref r])), (r, .inl (cI, 86, .inl (h_become f ((f 4) + 1))))] := hD
  refine lv_aload_n (pc := 12) hx hb dX0_oneMoreInside_12 rfl (lv_at hl 0 rfl) ?_
  refine va_get (pc := 13) (D := D) (ci := 0) (v := .ref r) (C := RX0) (T := TX0) (N := 1) hx hb hts hi_X0_oneMoreInside_X0 hown hK hP 0 rfl rfl 0 (by decide) (hts _ hw_X0_oneMoreInside_0) (fun _ h9 => h9) rfl dX0_oneMoreInside_13 ?_
  refine lv_iconst (pc := 16) (v := 4) hx hb dX0_oneMoreInside_16 (by decide) ?_
  refine b_iald (pc := 17) hx hb hK hP 1 0 rfl rfl 4 rfl (by omega) (by decide) dX0_oneMoreInside_17 ?_
  refine lv_aload_n (pc := 18) hx hb dX0_oneMoreInside_18 rfl (lv_at hl 0 rfl) ?_
  refine va_get (pc := 19) (D := D) (ci := 0) (v := .ref r) (C := RX0) (T := TX0) (N := 1) hx hb hts hi_X0_oneMoreInside_X0 hown hK hP 0 rfl rfl 0 (by decide) (hts _ hw_X0_oneMoreInside_0) (fun _ h9 => h9) rfl dX0_oneMoreInside_19 ?_
  refine lv_iconst (pc := 22) (v := 2) hx hb dX0_oneMoreInside_22 (by decide) ?_
  refine b_iald (pc := 23) hx hb hK hP 1 0 rfl rfl 2 rfl (by omega) (by decide) dX0_oneMoreInside_23 ?_
  refine lv_icmp_le (pc := 24) (tgt := 38) hx hb dX0_oneMoreInside_24 (by decide) (fun c_1 => ?_) (fun c_1 => ?_)
  · skip
    have c_1 : ((h_become f ((f 4) + 1)) 4) ≤ ((h_become f ((f 4) + 1)) 2) := c_1
    subst hQ
    exact b_retV hx hb hr hlocks hS (by first | exact hP | (refine (b_eqP ?_ hP); simp only [h_more, if_pos c_1])) dX0_oneMoreInside_38
  · skip
    have c_1 : ¬ (((h_become f ((f 4) + 1)) 4) ≤ ((h_become f ((f 4) + 1)) 2)) := c_1
    refine lv_aload_n (pc := 27) hx hb dX0_oneMoreInside_27 rfl (lv_at hl 0 rfl) ?_
    refine va_get (pc := 28) (D := D) (ci := 0) (v := .ref r) (C := RX0) (T := TX0) (N := 1) hx hb hts hi_X0_oneMoreInside_X0 hown hK hP 0 rfl rfl 0 (by decide) (hts _ hw_X0_oneMoreInside_0) (fun _ h9 => h9) rfl dX0_oneMoreInside_28 ?_
    refine lv_bipush (pc := 31) (v := 6) hx hb dX0_oneMoreInside_31 (by decide) ?_
    refine lv_dup2_11 (pc := 33) hx hb dX0_oneMoreInside_33 rfl rfl ?_
    refine b_iald (pc := 34) hx hb hK hP 1 0 rfl rfl 6 rfl (by omega) (by decide) dX0_oneMoreInside_34 ?_
    refine lv_iconst (pc := 35) (v := 1) hx hb dX0_oneMoreInside_35 (by decide) ?_
    refine lv_iadd (pc := 36) hx hb dX0_oneMoreInside_36 ?_
    refine b_iast (pc := 37) hx hb hK hP hD hS 1 0 rfl rfl 6 rfl (by omega) (by decide) dX0_oneMoreInside_37 (fun H locs hP hD hS => ?_)
    obtain ⟨f_2, ef_2⟩ : ∃ z : Nat → Int32, z = upd (h_become f ((f 4) + 1)) 6 (((h_become f ((f 4) + 1)) 6) + 1) := ⟨_, rfl⟩
    have hP : va_P D vwCl [(h, .inr (0, [.ref r])), (r, .inl (cI, 86, .inl f_2))] H := by rw [ef_2]; exact hP
    have hD : va_D A [(h, .inr (0, [.ref r])), (r, .inl (cI, 86, .inl f_2))] := by rw [ef_2]; exact hD
    subst ef_2
    subst hQ
    exact b_retV hx hb hr hlocks hS (by first | exact hP | (refine (b_eqP ?_ hP); simp only [h_more, if_neg c_1])) dX0_oneMoreInside_38
theorem hw_X0_oneLessInside_0 : (.fieldLink RX0 11 "BeamTurnstiles$Hall" "row" "[I" : Cond) ∈ wsX0_oneLessInside := by decide +kernel
theorem hi_X0_oneLessInside_X0 : ∀ w ∈ wsX00, w ∈ wsX0_oneLessInside := by decide +kernel
set_option maxHeartbeats 4000000 in
set_option maxRecDepth 100000 in
/-- Hall.oneLessInside -/
theorem c_X0_oneLessInside (l : Launch) (D : va_G) (cI cC cZ cG : ClassId) (tb lo hi : Nat) (sz : Nat) (h : Nat) (r : Nat) (f : Nat → Int32) : Met l yX0_oneLessInside wsX0_oneLessInside ({ frames := 0, cells := 0, slots := 0, locals := 0 } : Room) (b_W D (b_T cI cC cZ cG) (b_X tb lo hi) [(h, .inr (0, [.ref r])), (r, .inl (cI, 86, .inl f))] sz [.ref h]) (b_Qv D [(h, .inr (0, [.ref r])), (r, .inl (cI, 86, .inl (h_less f)))] (va_A [(h, .inr (0, [.ref r])), (r, .inl (cI, 86, .inl f))] sz)) 0 0 (va_A [(h, .inr (0, [.ref r])), (r, .inl (cI, 86, .inl f))] sz) := by
  refine b_enterW (Qc := fun A => b_Qv D [(h, .inr (0, [.ref r])), (r, .inl (cI, 86, .inl (h_less f)))] A) (cc := cX0_oneLessInside) (maxL := 1) (ret := none) (by decide) rfl (Nat.le_of_ble_eq_true rfl) ?_
  intro p e s m below meth c ls A hx hb hr hml hown hts hlocks hname hP hK hD hA hS hX hl Q hQ
  have hown : s.vm.findClass RX0 = some m.cls := hown
  have hl : lv_has ls 1 [(0, .ref h)] := hl
  refine lv_aload_n (pc := 0) hx hb dX0_oneLessInside_0 rfl (lv_at hl 0 rfl) ?_
  refine va_get (pc := 1) (D := D) (ci := 0) (v := .ref r) (C := RX0) (T := TX0) (N := 1) hx hb hts hi_X0_oneLessInside_X0 hown hK hP 0 rfl rfl 0 (by decide) (hts _ hw_X0_oneLessInside_0) (fun _ h9 => h9) rfl dX0_oneLessInside_1 ?_
  refine lv_iconst (pc := 4) (v := 4) hx hb dX0_oneLessInside_4 (by decide) ?_
  refine b_iald (pc := 5) hx hb hK hP 1 0 rfl rfl 4 rfl (by omega) (by decide) dX0_oneLessInside_5 ?_
  refine lv_if_le (pc := 6) (tgt := 22) hx hb dX0_oneLessInside_6 (by decide) (fun c_1 => ?_) (fun c_1 => ?_)
  · skip
    have c_1 : (f 4) ≤ 0 := c_1
    refine lv_aload_n (pc := 22) hx hb dX0_oneLessInside_22 rfl (lv_at hl 0 rfl) ?_
    refine va_get (pc := 23) (D := D) (ci := 0) (v := .ref r) (C := RX0) (T := TX0) (N := 1) hx hb hts hi_X0_oneLessInside_X0 hown hK hP 0 rfl rfl 0 (by decide) (hts _ hw_X0_oneLessInside_0) (fun _ h9 => h9) rfl dX0_oneLessInside_23 ?_
    refine lv_bipush (pc := 26) (v := 7) hx hb dX0_oneLessInside_26 (by decide) ?_
    refine lv_dup2_11 (pc := 28) hx hb dX0_oneLessInside_28 rfl rfl ?_
    refine b_iald (pc := 29) hx hb hK hP 1 0 rfl rfl 7 rfl (by omega) (by decide) dX0_oneLessInside_29 ?_
    refine lv_iconst (pc := 30) (v := 1) hx hb dX0_oneLessInside_30 (by decide) ?_
    refine lv_iadd (pc := 31) hx hb dX0_oneLessInside_31 ?_
    refine b_iast (pc := 32) hx hb hK hP hD hS 1 0 rfl rfl 7 rfl (by omega) (by decide) dX0_oneLessInside_32 (fun H locs hP hD hS => ?_)
    obtain ⟨f_2, ef_2⟩ : ∃ z : Nat → Int32, z = upd f 7 ((f 7) + 1) := ⟨_, rfl⟩
    have hP : va_P D vwCl [(h, .inr (0, [.ref r])), (r, .inl (cI, 86, .inl f_2))] H := by rw [ef_2]; exact hP
    have hD : va_D A [(h, .inr (0, [.ref r])), (r, .inl (cI, 86, .inl f_2))] := by rw [ef_2]; exact hD
    subst ef_2
    subst hQ
    exact b_retV hx hb hr hlocks hS (by first | exact hP | (refine (b_eqP ?_ hP); simp only [h_less, if_pos c_1])) dX0_oneLessInside_33
  · skip
    have c_1 : ¬ ((f 4) ≤ 0) := c_1
    refine lv_aload_n (pc := 9) hx hb dX0_oneLessInside_9 rfl (lv_at hl 0 rfl) ?_
    refine va_get (pc := 10) (D := D) (ci := 0) (v := .ref r) (C := RX0) (T := TX0) (N := 1) hx hb hts hi_X0_oneLessInside_X0 hown hK hP 0 rfl rfl 0 (by decide) (hts _ hw_X0_oneLessInside_0) (fun _ h9 => h9) rfl dX0_oneLessInside_10 ?_
    refine lv_iconst (pc := 13) (v := 4) hx hb dX0_oneLessInside_13 (by decide) ?_
    refine lv_dup2_11 (pc := 14) hx hb dX0_oneLessInside_14 rfl rfl ?_
    refine b_iald (pc := 15) hx hb hK hP 1 0 rfl rfl 4 rfl (by omega) (by decide) dX0_oneLessInside_15 ?_
    refine lv_iconst (pc := 16) (v := 1) hx hb dX0_oneLessInside_16 (by decide) ?_
    refine lv_isub (pc := 17) hx hb dX0_oneLessInside_17 ?_
    refine b_iast (pc := 18) hx hb hK hP hD hS 1 0 rfl rfl 4 rfl (by omega) (by decide) dX0_oneLessInside_18 (fun H locs hP hD hS => ?_)
    obtain ⟨f_3, ef_3⟩ : ∃ z : Nat → Int32, z = upd f 4 ((f 4) - 1) := ⟨_, rfl⟩
    have hP : va_P D vwCl [(h, .inr (0, [.ref r])), (r, .inl (cI, 86, .inl f_3))] H := by rw [ef_3]; exact hP
    have hD : va_D A [(h, .inr (0, [.ref r])), (r, .inl (cI, 86, .inl f_3))] := by rw [ef_3]; exact hD
    refine lv_goto (pc := 19) (tgt := 33) hx hb dX0_oneLessInside_19 (by decide) ?_
    subst ef_3
    subst hQ
    exact b_retV hx hb hr hlocks hS (by first | exact hP | (refine (b_eqP ?_ hP); simp only [h_less, if_neg c_1])) dX0_oneLessInside_33
theorem hw_X0_comeThrough_0 : (.fieldLink RX0 11 "BeamTurnstiles$Hall" "row" "[I" : Cond) ∈ wsX0_comeThrough := by decide +kernel
theorem hi_X0_comeThrough_X0 : ∀ w ∈ wsX00, w ∈ wsX0_comeThrough := by decide +kernel
set_option maxHeartbeats 4000000 in
set_option maxRecDepth 100000 in
/-- Hall.comeThrough -/
theorem c_X0_comeThrough (l : Launch) (D : va_G) (cI cC cZ cG : ClassId) (tb lo hi : Nat) (sz : Nat) (h : Nat) (r : Nat) (f : Nat → Int32) (P : Nat) (w : Nat) (hp : P + 13 ≤ 86) (hw : w < 13) : Met l yX0_comeThrough wsX0_comeThrough ({ frames := 0, cells := 0, slots := 0, locals := 0 } : Room) (b_W D (b_T cI cC cZ cG) (b_X tb lo hi) [(h, .inr (0, [.ref r])), (r, .inl (cI, 86, .inl f))] sz [.ref h, .int (nI P), .int (nI w)]) (b_Qv D [(h, .inr (0, [.ref r])), (r, .inl (cI, 86, .inl (h_come f P w)))] (va_A [(h, .inr (0, [.ref r])), (r, .inl (cI, 86, .inl f))] sz)) 0 0 (va_A [(h, .inr (0, [.ref r])), (r, .inl (cI, 86, .inl f))] sz) := by
  refine b_enterW (Qc := fun A => b_Qv D [(h, .inr (0, [.ref r])), (r, .inl (cI, 86, .inl (h_come f P w)))] A) (cc := cX0_comeThrough) (maxL := 4) (ret := none) (by decide) rfl (Nat.le_of_ble_eq_true rfl) ?_
  intro p e s m below meth c ls A hx hb hr hml hown hts hlocks hname hP hK hD hA hS hX hl Q hQ
  have hown : s.vm.findClass RX0 = some m.cls := hown
  have hl : lv_has ls 4 [(0, .ref h), (1, .int (nI P)), (2, .int (nI w))] := hl
  refine lv_aload_n (pc := 0) hx hb dX0_comeThrough_0 rfl (lv_at hl 0 rfl) ?_
  refine va_get (pc := 1) (D := D) (ci := 0) (v := .ref r) (C := RX0) (T := TX0) (N := 1) hx hb hts hi_X0_comeThrough_X0 hown hK hP 0 rfl rfl 0 (by decide) (hts _ hw_X0_comeThrough_0) (fun _ h9 => h9) rfl dX0_comeThrough_1 ?_
  refine lv_iload_n (pc := 4) hx hb dX0_comeThrough_4 rfl (lv_at hl 1 rfl) ?_
  refine lv_iconst (pc := 5) (v := 1) hx hb dX0_comeThrough_5 (by decide) ?_
  refine lv_iadd (pc := 6) hx hb dX0_comeThrough_6 ?_
  refine b_re (nI_add P 1) ?_
  refine b_iald (pc := 7) hx hb hK hP 1 0 rfl rfl (P + 1) rfl (by omega) (by decide) dX0_comeThrough_7 ?_
  refine lv_istore_n (pc := 8) (lv' := [(3, .int (f (P + 1))), (0, .ref h), (1, .int (nI P)), (2, .int (nI w))]) hx hb dX0_comeThrough_8 rfl hl (by decide) rfl (fun ls hl => ?_)
  refine lv_aload_n (pc := 9) hx hb dX0_comeThrough_9 rfl (lv_at hl 1 rfl) ?_
  refine va_get (pc := 10) (D := D) (ci := 0) (v := .ref r) (C := RX0) (T := TX0) (N := 1) hx hb hts hi_X0_comeThrough_X0 hown hK hP 0 rfl rfl 0 (by decide) (hts _ hw_X0_comeThrough_0) (fun _ h9 => h9) rfl dX0_comeThrough_10 ?_
  refine lv_iload_n (pc := 13) hx hb dX0_comeThrough_13 rfl (lv_at hl 2 rfl) ?_
  refine lv_iconst (pc := 14) (v := 4) hx hb dX0_comeThrough_14 (by decide) ?_
  refine lv_iadd (pc := 15) hx hb dX0_comeThrough_15 ?_
  refine b_re (nI_add P 4) ?_
  refine b_iald (pc := 16) hx hb hK hP 1 0 rfl rfl (P + 4) rfl (by omega) (by decide) dX0_comeThrough_16 ?_
  refine lv_iload_n (pc := 17) hx hb dX0_comeThrough_17 rfl (lv_at hl 3 rfl) ?_
  refine lv_icmp_ne (pc := 18) (tgt := 54) hx hb dX0_comeThrough_18 (by decide) (fun c_1 => ?_) (fun c_1 => ?_)
  · skip
    have c_1 : ¬ ((f (P + 4)) = (nI w)) := c_1
    refine lv_aload_n (pc := 54) hx hb dX0_comeThrough_54 rfl (lv_at hl 1 rfl) ?_
    refine va_get (pc := 55) (D := D) (ci := 0) (v := .ref r) (C := RX0) (T := TX0) (N := 1) hx hb hts hi_X0_comeThrough_X0 hown hK hP 0 rfl rfl 0 (by decide) (hts _ hw_X0_comeThrough_0) (fun _ h9 => h9) rfl dX0_comeThrough_55 ?_
    refine lv_iload_n (pc := 58) hx hb dX0_comeThrough_58 rfl (lv_at hl 2 rfl) ?_
    refine lv_iload_n (pc := 59) hx hb dX0_comeThrough_59 rfl (lv_at hl 3 rfl) ?_
    refine lv_iadd (pc := 60) hx hb dX0_comeThrough_60 ?_
    refine b_re (nI_add P w) ?_
    refine lv_dup2_11 (pc := 61) hx hb dX0_comeThrough_61 rfl rfl ?_
    refine b_iald (pc := 62) hx hb hK hP 1 0 rfl rfl (P + w) rfl (by omega) (by decide) dX0_comeThrough_62 ?_
    refine lv_iconst (pc := 63) (v := 1) hx hb dX0_comeThrough_63 (by decide) ?_
    refine lv_iadd (pc := 64) hx hb dX0_comeThrough_64 ?_
    refine b_iast (pc := 65) hx hb hK hP hD hS 1 0 rfl rfl (P + w) rfl (by omega) (by decide) dX0_comeThrough_65 (fun H locs hP hD hS => ?_)
    obtain ⟨f_2, ef_2⟩ : ∃ z : Nat → Int32, z = upd f (P + w) ((f (P + w)) + 1) := ⟨_, rfl⟩
    have hP : va_P D vwCl [(h, .inr (0, [.ref r])), (r, .inl (cI, 86, .inl f_2))] H := by rw [ef_2]; exact hP
    have hD : va_D A [(h, .inr (0, [.ref r])), (r, .inl (cI, 86, .inl f_2))] := by rw [ef_2]; exact hD
    refine lv_aload_n (pc := 66) hx hb dX0_comeThrough_66 rfl (lv_at hl 1 rfl) ?_
    refine va_get (pc := 67) (D := D) (ci := 0) (v := .ref r) (C := RX0) (T := TX0) (N := 1) hx hb hts hi_X0_comeThrough_X0 hown hK hP 0 rfl rfl 0 (by decide) (hts _ hw_X0_comeThrough_0) (fun _ h9 => h9) rfl dX0_comeThrough_67 ?_
    refine lv_iload_n (pc := 70) hx hb dX0_comeThrough_70 rfl (lv_at hl 2 rfl) ?_
    refine lv_bipush (pc := 71) (v := 11) hx hb dX0_comeThrough_71 (by decide) ?_
    refine lv_iadd (pc := 73) hx hb dX0_comeThrough_73 ?_
    refine b_re (nI_add P 11) ?_
    refine lv_dup2_11 (pc := 74) hx hb dX0_comeThrough_74 rfl rfl ?_
    refine b_iald (pc := 75) hx hb hK hP 1 0 rfl rfl (P + 11) rfl (by omega) (by decide) dX0_comeThrough_75 ?_
    refine lv_aload_n (pc := 76) hx hb dX0_comeThrough_76 rfl (lv_at hl 1 rfl) ?_
    refine va_get (pc := 77) (D := D) (ci := 0) (v := .ref r) (C := RX0) (T := TX0) (N := 1) hx hb hts hi_X0_comeThrough_X0 hown hK hP 0 rfl rfl 0 (by decide) (hts _ hw_X0_comeThrough_0) (fun _ h9 => h9) rfl dX0_comeThrough_77 ?_
    refine lv_iconst (pc := 80) (v := 3) hx hb dX0_comeThrough_80 (by decide) ?_
    refine b_iald (pc := 81) hx hb hK hP 1 0 rfl rfl 3 rfl (by omega) (by decide) dX0_comeThrough_81 ?_
    refine lv_iload_n (pc := 82) hx hb dX0_comeThrough_82 rfl (lv_at hl 0 rfl) ?_
    refine lv_isub (pc := 83) hx hb dX0_comeThrough_83 ?_
    refine lv_iadd (pc := 84) hx hb dX0_comeThrough_84 ?_
    refine b_iast (pc := 85) hx hb hK hP hD hS 1 0 rfl rfl (P + 11) rfl (by omega) (by decide) dX0_comeThrough_85 (fun H locs hP hD hS => ?_)
    obtain ⟨f_3, ef_3⟩ : ∃ z : Nat → Int32, z = upd f_2 (P + 11) ((f_2 (P + 11)) + ((f_2 3) - (f (P + 1)))) := ⟨_, rfl⟩
    have hP : va_P D vwCl [(h, .inr (0, [.ref r])), (r, .inl (cI, 86, .inl f_3))] H := by rw [ef_3]; exact hP
    have hD : va_D A [(h, .inr (0, [.ref r])), (r, .inl (cI, 86, .inl f_3))] := by rw [ef_3]; exact hD
    refine lv_aload_n (pc := 86) hx hb dX0_comeThrough_86 rfl (lv_at hl 1 rfl) ?_
    refine va_get (pc := 87) (D := D) (ci := 0) (v := .ref r) (C := RX0) (T := TX0) (N := 1) hx hb hts hi_X0_comeThrough_X0 hown hK hP 0 rfl rfl 0 (by decide) (hts _ hw_X0_comeThrough_0) (fun _ h9 => h9) rfl dX0_comeThrough_87 ?_
    refine lv_iload_n (pc := 90) hx hb dX0_comeThrough_90 rfl (lv_at hl 2 rfl) ?_
    refine lv_iconst (pc := 91) (v := 4) hx hb dX0_comeThrough_91 (by decide) ?_
    refine lv_iadd (pc := 92) hx hb dX0_comeThrough_92 ?_
    refine b_re (nI_add P 4) ?_
    refine lv_iload_n (pc := 93) hx hb dX0_comeThrough_93 rfl (lv_at hl 3 rfl) ?_
    refine b_iast (pc := 94) hx hb hK hP hD hS 1 0 rfl rfl (P + 4) rfl (by omega) (by decide) dX0_comeThrough_94 (fun H locs hP hD hS => ?_)
    obtain ⟨f_4, ef_4⟩ : ∃ z : Nat → Int32, z = upd f_3 (P + 4) (nI w) := ⟨_, rfl⟩
    have hP : va_P D vwCl [(h, .inr (0, [.ref r])), (r, .inl (cI, 86, .inl f_4))] H := by rw [ef_4]; exact hP
    have hD : va_D A [(h, .inr (0, [.ref r])), (r, .inl (cI, 86, .inl f_4))] := by rw [ef_4]; exact hD
    refine lv_aload_n (pc := 95) hx hb dX0_comeThrough_95 rfl (lv_at hl 1 rfl) ?_
    refine va_get (pc := 96) (D := D) (ci := 0) (v := .ref r) (C := RX0) (T := TX0) (N := 1) hx hb hts hi_X0_comeThrough_X0 hown hK hP 0 rfl rfl 0 (by decide) (hts _ hw_X0_comeThrough_0) (fun _ h9 => h9) rfl dX0_comeThrough_96 ?_
    refine lv_iload_n (pc := 99) hx hb dX0_comeThrough_99 rfl (lv_at hl 2 rfl) ?_
    refine lv_bipush (pc := 100) (v := 12) hx hb dX0_comeThrough_100 (by decide) ?_
    refine lv_iadd (pc := 102) hx hb dX0_comeThrough_102 ?_
    refine b_re (nI_add P 12) ?_
    refine lv_aload_n (pc := 103) hx hb dX0_comeThrough_103 rfl (lv_at hl 1 rfl) ?_
    refine va_get (pc := 104) (D := D) (ci := 0) (v := .ref r) (C := RX0) (T := TX0) (N := 1) hx hb hts hi_X0_comeThrough_X0 hown hK hP 0 rfl rfl 0 (by decide) (hts _ hw_X0_comeThrough_0) (fun _ h9 => h9) rfl dX0_comeThrough_104 ?_
    refine lv_iconst (pc := 107) (v := 3) hx hb dX0_comeThrough_107 (by decide) ?_
    refine b_iald (pc := 108) hx hb hK hP 1 0 rfl rfl 3 rfl (by omega) (by decide) dX0_comeThrough_108 ?_
    refine b_iast (pc := 109) hx hb hK hP hD hS 1 0 rfl rfl (P + 12) rfl (by omega) (by decide) dX0_comeThrough_109 (fun H locs hP hD hS => ?_)
    obtain ⟨f_5, ef_5⟩ : ∃ z : Nat → Int32, z = upd f_4 (P + 12) (f_4 3) := ⟨_, rfl⟩
    have hP : va_P D vwCl [(h, .inr (0, [.ref r])), (r, .inl (cI, 86, .inl f_5))] H := by rw [ef_5]; exact hP
    have hD : va_D A [(h, .inr (0, [.ref r])), (r, .inl (cI, 86, .inl f_5))] := by rw [ef_5]; exact hD
    subst ef_2
    subst ef_3
    subst ef_4
    subst ef_5
    subst hQ
    exact b_retV hx hb hr hlocks hS (by first | exact hP | (refine (b_eqP ?_ hP); simp only [h_come, h_come1, h_come2, if_neg c_1])) dX0_comeThrough_110
  · skip
    have c_1 : (f (P + 4)) = (nI w) := c_1
    refine lv_iload_n (pc := 21) hx hb dX0_comeThrough_21 rfl (lv_at hl 0 rfl) ?_
    refine lv_aload_n (pc := 22) hx hb dX0_comeThrough_22 rfl (lv_at hl 1 rfl) ?_
    refine va_get (pc := 23) (D := D) (ci := 0) (v := .ref r) (C := RX0) (T := TX0) (N := 1) hx hb hts hi_X0_comeThrough_X0 hown hK hP 0 rfl rfl 0 (by decide) (hts _ hw_X0_comeThrough_0) (fun _ h9 => h9) rfl dX0_comeThrough_23 ?_
    refine lv_iload_n (pc := 26) hx hb dX0_comeThrough_26 rfl (lv_at hl 2 rfl) ?_
    refine lv_bipush (pc := 27) (v := 12) hx hb dX0_comeThrough_27 (by decide) ?_
    refine lv_iadd (pc := 29) hx hb dX0_comeThrough_29 ?_
    refine b_re (nI_add P 12) ?_
    refine b_iald (pc := 30) hx hb hK hP 1 0 rfl rfl (P + 12) rfl (by omega) (by decide) dX0_comeThrough_30 ?_
    refine lv_isub (pc := 31) hx hb dX0_comeThrough_31 ?_
    refine lv_aload_n (pc := 32) hx hb dX0_comeThrough_32 rfl (lv_at hl 1 rfl) ?_
    refine va_get (pc := 33) (D := D) (ci := 0) (v := .ref r) (C := RX0) (T := TX0) (N := 1) hx hb hts hi_X0_comeThrough_X0 hown hK hP 0 rfl rfl 0 (by decide) (hts _ hw_X0_comeThrough_0) (fun _ h9 => h9) rfl dX0_comeThrough_33 ?_
    refine lv_iconst (pc := 36) (v := 1) hx hb dX0_comeThrough_36 (by decide) ?_
    refine b_iald (pc := 37) hx hb hK hP 1 0 rfl rfl 1 rfl (by omega) (by decide) dX0_comeThrough_37 ?_
    refine lv_icmp_gt (pc := 38) (tgt := 54) hx hb dX0_comeThrough_38 (by decide) (fun c_6 => ?_) (fun c_6 => ?_)
    · skip
      have c_6 : (f 1) < ((f (P + 1)) - (f (P + 12))) := c_6
      refine lv_aload_n (pc := 54) hx hb dX0_comeThrough_54 rfl (lv_at hl 1 rfl) ?_
      refine va_get (pc := 55) (D := D) (ci := 0) (v := .ref r) (C := RX0) (T := TX0) (N := 1) hx hb hts hi_X0_comeThrough_X0 hown hK hP 0 rfl rfl 0 (by decide) (hts _ hw_X0_comeThrough_0) (fun _ h9 => h9) rfl dX0_comeThrough_55 ?_
      refine lv_iload_n (pc := 58) hx hb dX0_comeThrough_58 rfl (lv_at hl 2 rfl) ?_
      refine lv_iload_n (pc := 59) hx hb dX0_comeThrough_59 rfl (lv_at hl 3 rfl) ?_
      refine lv_iadd (pc := 60) hx hb dX0_comeThrough_60 ?_
      refine b_re (nI_add P w) ?_
      refine lv_dup2_11 (pc := 61) hx hb dX0_comeThrough_61 rfl rfl ?_
      refine b_iald (pc := 62) hx hb hK hP 1 0 rfl rfl (P + w) rfl (by omega) (by decide) dX0_comeThrough_62 ?_
      refine lv_iconst (pc := 63) (v := 1) hx hb dX0_comeThrough_63 (by decide) ?_
      refine lv_iadd (pc := 64) hx hb dX0_comeThrough_64 ?_
      refine b_iast (pc := 65) hx hb hK hP hD hS 1 0 rfl rfl (P + w) rfl (by omega) (by decide) dX0_comeThrough_65 (fun H locs hP hD hS => ?_)
      obtain ⟨f_7, ef_7⟩ : ∃ z : Nat → Int32, z = upd f (P + w) ((f (P + w)) + 1) := ⟨_, rfl⟩
      have hP : va_P D vwCl [(h, .inr (0, [.ref r])), (r, .inl (cI, 86, .inl f_7))] H := by rw [ef_7]; exact hP
      have hD : va_D A [(h, .inr (0, [.ref r])), (r, .inl (cI, 86, .inl f_7))] := by rw [ef_7]; exact hD
      refine lv_aload_n (pc := 66) hx hb dX0_comeThrough_66 rfl (lv_at hl 1 rfl) ?_
      refine va_get (pc := 67) (D := D) (ci := 0) (v := .ref r) (C := RX0) (T := TX0) (N := 1) hx hb hts hi_X0_comeThrough_X0 hown hK hP 0 rfl rfl 0 (by decide) (hts _ hw_X0_comeThrough_0) (fun _ h9 => h9) rfl dX0_comeThrough_67 ?_
      refine lv_iload_n (pc := 70) hx hb dX0_comeThrough_70 rfl (lv_at hl 2 rfl) ?_
      refine lv_bipush (pc := 71) (v := 11) hx hb dX0_comeThrough_71 (by decide) ?_
      refine lv_iadd (pc := 73) hx hb dX0_comeThrough_73 ?_
      refine b_re (nI_add P 11) ?_
      refine lv_dup2_11 (pc := 74) hx hb dX0_comeThrough_74 rfl rfl ?_
      refine b_iald (pc := 75) hx hb hK hP 1 0 rfl rfl (P + 11) rfl (by omega) (by decide) dX0_comeThrough_75 ?_
      refine lv_aload_n (pc := 76) hx hb dX0_comeThrough_76 rfl (lv_at hl 1 rfl) ?_
      refine va_get (pc := 77) (D := D) (ci := 0) (v := .ref r) (C := RX0) (T := TX0) (N := 1) hx hb hts hi_X0_comeThrough_X0 hown hK hP 0 rfl rfl 0 (by decide) (hts _ hw_X0_comeThrough_0) (fun _ h9 => h9) rfl dX0_comeThrough_77 ?_
      refine lv_iconst (pc := 80) (v := 3) hx hb dX0_comeThrough_80 (by decide) ?_
      refine b_iald (pc := 81) hx hb hK hP 1 0 rfl rfl 3 rfl (by omega) (by decide) dX0_comeThrough_81 ?_
      refine lv_iload_n (pc := 82) hx hb dX0_comeThrough_82 rfl (lv_at hl 0 rfl) ?_
      refine lv_isub (pc := 83) hx hb dX0_comeThrough_83 ?_
      refine lv_iadd (pc := 84) hx hb dX0_comeThrough_84 ?_
      refine b_iast (pc := 85) hx hb hK hP hD hS 1 0 rfl rfl (P + 11) rfl (by omega) (by decide) dX0_comeThrough_85 (fun H locs hP hD hS => ?_)
      obtain ⟨f_8, ef_8⟩ : ∃ z : Nat → Int32, z = upd f_7 (P + 11) ((f_7 (P + 11)) + ((f_7 3) - (f (P + 1)))) := ⟨_, rfl⟩
      have hP : va_P D vwCl [(h, .inr (0, [.ref r])), (r, .inl (cI, 86, .inl f_8))] H := by rw [ef_8]; exact hP
      have hD : va_D A [(h, .inr (0, [.ref r])), (r, .inl (cI, 86, .inl f_8))] := by rw [ef_8]; exact hD
      refine lv_aload_n (pc := 86) hx hb dX0_comeThrough_86 rfl (lv_at hl 1 rfl) ?_
      refine va_get (pc := 87) (D := D) (ci := 0) (v := .ref r) (C := RX0) (T := TX0) (N := 1) hx hb hts hi_X0_comeThrough_X0 hown hK hP 0 rfl rfl 0 (by decide) (hts _ hw_X0_comeThrough_0) (fun _ h9 => h9) rfl dX0_comeThrough_87 ?_
      refine lv_iload_n (pc := 90) hx hb dX0_comeThrough_90 rfl (lv_at hl 2 rfl) ?_
      refine lv_iconst (pc := 91) (v := 4) hx hb dX0_comeThrough_91 (by decide) ?_
      refine lv_iadd (pc := 92) hx hb dX0_comeThrough_92 ?_
      refine b_re (nI_add P 4) ?_
      refine lv_iload_n (pc := 93) hx hb dX0_comeThrough_93 rfl (lv_at hl 3 rfl) ?_
      refine b_iast (pc := 94) hx hb hK hP hD hS 1 0 rfl rfl (P + 4) rfl (by omega) (by decide) dX0_comeThrough_94 (fun H locs hP hD hS => ?_)
      obtain ⟨f_9, ef_9⟩ : ∃ z : Nat → Int32, z = upd f_8 (P + 4) (nI w) := ⟨_, rfl⟩
      have hP : va_P D vwCl [(h, .inr (0, [.ref r])), (r, .inl (cI, 86, .inl f_9))] H := by rw [ef_9]; exact hP
      have hD : va_D A [(h, .inr (0, [.ref r])), (r, .inl (cI, 86, .inl f_9))] := by rw [ef_9]; exact hD
      refine lv_aload_n (pc := 95) hx hb dX0_comeThrough_95 rfl (lv_at hl 1 rfl) ?_
      refine va_get (pc := 96) (D := D) (ci := 0) (v := .ref r) (C := RX0) (T := TX0) (N := 1) hx hb hts hi_X0_comeThrough_X0 hown hK hP 0 rfl rfl 0 (by decide) (hts _ hw_X0_comeThrough_0) (fun _ h9 => h9) rfl dX0_comeThrough_96 ?_
      refine lv_iload_n (pc := 99) hx hb dX0_comeThrough_99 rfl (lv_at hl 2 rfl) ?_
      refine lv_bipush (pc := 100) (v := 12) hx hb dX0_comeThrough_100 (by decide) ?_
      refine lv_iadd (pc := 102) hx hb dX0_comeThrough_102 ?_
      refine b_re (nI_add P 12) ?_
      refine lv_aload_n (pc := 103) hx hb dX0_comeThrough_103 rfl (lv_at hl 1 rfl) ?_
      refine va_get (pc := 104) (D := D) (ci := 0) (v := .ref r) (C := RX0) (T := TX0) (N := 1) hx hb hts hi_X0_comeThrough_X0 hown hK hP 0 rfl rfl 0 (by decide) (hts _ hw_X0_comeThrough_0) (fun _ h9 => h9) rfl dX0_comeThrough_104 ?_
      refine lv_iconst (pc := 107) (v := 3) hx hb dX0_comeThrough_107 (by decide) ?_
      refine b_iald (pc := 108) hx hb hK hP 1 0 rfl rfl 3 rfl (by omega) (by decide) dX0_comeThrough_108 ?_
      refine b_iast (pc := 109) hx hb hK hP hD hS 1 0 rfl rfl (P + 12) rfl (by omega) (by decide) dX0_comeThrough_109 (fun H locs hP hD hS => ?_)
      obtain ⟨f_10, ef_10⟩ : ∃ z : Nat → Int32, z = upd f_9 (P + 12) (f_9 3) := ⟨_, rfl⟩
      have hP : va_P D vwCl [(h, .inr (0, [.ref r])), (r, .inl (cI, 86, .inl f_10))] H := by rw [ef_10]; exact hP
      have hD : va_D A [(h, .inr (0, [.ref r])), (r, .inl (cI, 86, .inl f_10))] := by rw [ef_10]; exact hD
      subst ef_7
      subst ef_8
      subst ef_9
      subst ef_10
      subst hQ
      exact b_retV hx hb hr hlocks hS (by first | exact hP | (refine (b_eqP ?_ hP); simp only [h_come, h_come1, h_come2, if_pos c_1, if_pos c_6])) dX0_comeThrough_110
    · skip
      have c_6 : ¬ ((f 1) < ((f (P + 1)) - (f (P + 12)))) := c_6
      refine lv_aload_n (pc := 41) hx hb dX0_comeThrough_41 rfl (lv_at hl 1 rfl) ?_
      refine va_get (pc := 42) (D := D) (ci := 0) (v := .ref r) (C := RX0) (T := TX0) (N := 1) hx hb hts hi_X0_comeThrough_X0 hown hK hP 0 rfl rfl 0 (by decide) (hts _ hw_X0_comeThrough_0) (fun _ h9 => h9) rfl dX0_comeThrough_42 ?_
      refine lv_iload_n (pc := 45) hx hb dX0_comeThrough_45 rfl (lv_at hl 2 rfl) ?_
      refine lv_bipush (pc := 46) (v := 10) hx hb dX0_comeThrough_46 (by decide) ?_
      refine lv_iadd (pc := 48) hx hb dX0_comeThrough_48 ?_
      refine b_re (nI_add P 10) ?_
      refine lv_dup2_11 (pc := 49) hx hb dX0_comeThrough_49 rfl rfl ?_
      refine b_iald (pc := 50) hx hb hK hP 1 0 rfl rfl (P + 10) rfl (by omega) (by decide) dX0_comeThrough_50 ?_
      refine lv_iconst (pc := 51) (v := 1) hx hb dX0_comeThrough_51 (by decide) ?_
      refine lv_iadd (pc := 52) hx hb dX0_comeThrough_52 ?_
      refine b_iast (pc := 53) hx hb hK hP hD hS 1 0 rfl rfl (P + 10) rfl (by omega) (by decide) dX0_comeThrough_53 (fun H locs hP hD hS => ?_)
      obtain ⟨f_11, ef_11⟩ : ∃ z : Nat → Int32, z = upd f (P + 10) ((f (P + 10)) + 1) := ⟨_, rfl⟩
      have hP : va_P D vwCl [(h, .inr (0, [.ref r])), (r, .inl (cI, 86, .inl f_11))] H := by rw [ef_11]; exact hP
      have hD : va_D A [(h, .inr (0, [.ref r])), (r, .inl (cI, 86, .inl f_11))] := by rw [ef_11]; exact hD
      refine lv_aload_n (pc := 54) hx hb dX0_comeThrough_54 rfl (lv_at hl 1 rfl) ?_
      refine va_get (pc := 55) (D := D) (ci := 0) (v := .ref r) (C := RX0) (T := TX0) (N := 1) hx hb hts hi_X0_comeThrough_X0 hown hK hP 0 rfl rfl 0 (by decide) (hts _ hw_X0_comeThrough_0) (fun _ h9 => h9) rfl dX0_comeThrough_55 ?_
      refine lv_iload_n (pc := 58) hx hb dX0_comeThrough_58 rfl (lv_at hl 2 rfl) ?_
      refine lv_iload_n (pc := 59) hx hb dX0_comeThrough_59 rfl (lv_at hl 3 rfl) ?_
      refine lv_iadd (pc := 60) hx hb dX0_comeThrough_60 ?_
      refine b_re (nI_add P w) ?_
      refine lv_dup2_11 (pc := 61) hx hb dX0_comeThrough_61 rfl rfl ?_
      refine b_iald (pc := 62) hx hb hK hP 1 0 rfl rfl (P + w) rfl (by omega) (by decide) dX0_comeThrough_62 ?_
      refine lv_iconst (pc := 63) (v := 1) hx hb dX0_comeThrough_63 (by decide) ?_
      refine lv_iadd (pc := 64) hx hb dX0_comeThrough_64 ?_
      refine b_iast (pc := 65) hx hb hK hP hD hS 1 0 rfl rfl (P + w) rfl (by omega) (by decide) dX0_comeThrough_65 (fun H locs hP hD hS => ?_)
      obtain ⟨f_12, ef_12⟩ : ∃ z : Nat → Int32, z = upd f_11 (P + w) ((f_11 (P + w)) + 1) := ⟨_, rfl⟩
      have hP : va_P D vwCl [(h, .inr (0, [.ref r])), (r, .inl (cI, 86, .inl f_12))] H := by rw [ef_12]; exact hP
      have hD : va_D A [(h, .inr (0, [.ref r])), (r, .inl (cI, 86, .inl f_12))] := by rw [ef_12]; exact hD
      refine lv_aload_n (pc := 66) hx hb dX0_comeThrough_66 rfl (lv_at hl 1 rfl) ?_
      refine va_get (pc := 67) (D := D) (ci := 0) (v := .ref r) (C := RX0) (T := TX0) (N := 1) hx hb hts hi_X0_comeThrough_X0 hown hK hP 0 rfl rfl 0 (by decide) (hts _ hw_X0_comeThrough_0) (fun _ h9 => h9) rfl dX0_comeThrough_67 ?_
      refine lv_iload_n (pc := 70) hx hb dX0_comeThrough_70 rfl (lv_at hl 2 rfl) ?_
      refine lv_bipush (pc := 71) (v := 11) hx hb dX0_comeThrough_71 (by decide) ?_
      refine lv_iadd (pc := 73) hx hb dX0_comeThrough_73 ?_
      refine b_re (nI_add P 11) ?_
      refine lv_dup2_11 (pc := 74) hx hb dX0_comeThrough_74 rfl rfl ?_
      refine b_iald (pc := 75) hx hb hK hP 1 0 rfl rfl (P + 11) rfl (by omega) (by decide) dX0_comeThrough_75 ?_
      refine lv_aload_n (pc := 76) hx hb dX0_comeThrough_76 rfl (lv_at hl 1 rfl) ?_
      refine va_get (pc := 77) (D := D) (ci := 0) (v := .ref r) (C := RX0) (T := TX0) (N := 1) hx hb hts hi_X0_comeThrough_X0 hown hK hP 0 rfl rfl 0 (by decide) (hts _ hw_X0_comeThrough_0) (fun _ h9 => h9) rfl dX0_comeThrough_77 ?_
      refine lv_iconst (pc := 80) (v := 3) hx hb dX0_comeThrough_80 (by decide) ?_
      refine b_iald (pc := 81) hx hb hK hP 1 0 rfl rfl 3 rfl (by omega) (by decide) dX0_comeThrough_81 ?_
      refine lv_iload_n (pc := 82) hx hb dX0_comeThrough_82 rfl (lv_at hl 0 rfl) ?_
      refine lv_isub (pc := 83) hx hb dX0_comeThrough_83 ?_
      refine lv_iadd (pc := 84) hx hb dX0_comeThrough_84 ?_
      refine b_iast (pc := 85) hx hb hK hP hD hS 1 0 rfl rfl (P + 11) rfl (by omega) (by decide) dX0_comeThrough_85 (fun H locs hP hD hS => ?_)
      obtain ⟨f_13, ef_13⟩ : ∃ z : Nat → Int32, z = upd f_12 (P + 11) ((f_12 (P + 11)) + ((f_12 3) - (f (P + 1)))) := ⟨_, rfl⟩
      have hP : va_P D vwCl [(h, .inr (0, [.ref r])), (r, .inl (cI, 86, .inl f_13))] H := by rw [ef_13]; exact hP
      have hD : va_D A [(h, .inr (0, [.ref r])), (r, .inl (cI, 86, .inl f_13))] := by rw [ef_13]; exact hD
      refine lv_aload_n (pc := 86) hx hb dX0_comeThrough_86 rfl (lv_at hl 1 rfl) ?_
      refine va_get (pc := 87) (D := D) (ci := 0) (v := .ref r) (C := RX0) (T := TX0) (N := 1) hx hb hts hi_X0_comeThrough_X0 hown hK hP 0 rfl rfl 0 (by decide) (hts _ hw_X0_comeThrough_0) (fun _ h9 => h9) rfl dX0_comeThrough_87 ?_
      refine lv_iload_n (pc := 90) hx hb dX0_comeThrough_90 rfl (lv_at hl 2 rfl) ?_
      refine lv_iconst (pc := 91) (v := 4) hx hb dX0_comeThrough_91 (by decide) ?_
      refine lv_iadd (pc := 92) hx hb dX0_comeThrough_92 ?_
      refine b_re (nI_add P 4) ?_
      refine lv_iload_n (pc := 93) hx hb dX0_comeThrough_93 rfl (lv_at hl 3 rfl) ?_
      refine b_iast (pc := 94) hx hb hK hP hD hS 1 0 rfl rfl (P + 4) rfl (by omega) (by decide) dX0_comeThrough_94 (fun H locs hP hD hS => ?_)
      obtain ⟨f_14, ef_14⟩ : ∃ z : Nat → Int32, z = upd f_13 (P + 4) (nI w) := ⟨_, rfl⟩
      have hP : va_P D vwCl [(h, .inr (0, [.ref r])), (r, .inl (cI, 86, .inl f_14))] H := by rw [ef_14]; exact hP
      have hD : va_D A [(h, .inr (0, [.ref r])), (r, .inl (cI, 86, .inl f_14))] := by rw [ef_14]; exact hD
      refine lv_aload_n (pc := 95) hx hb dX0_comeThrough_95 rfl (lv_at hl 1 rfl) ?_
      refine va_get (pc := 96) (D := D) (ci := 0) (v := .ref r) (C := RX0) (T := TX0) (N := 1) hx hb hts hi_X0_comeThrough_X0 hown hK hP 0 rfl rfl 0 (by decide) (hts _ hw_X0_comeThrough_0) (fun _ h9 => h9) rfl dX0_comeThrough_96 ?_
      refine lv_iload_n (pc := 99) hx hb dX0_comeThrough_99 rfl (lv_at hl 2 rfl) ?_
      refine lv_bipush (pc := 100) (v := 12) hx hb dX0_comeThrough_100 (by decide) ?_
      refine lv_iadd (pc := 102) hx hb dX0_comeThrough_102 ?_
      refine b_re (nI_add P 12) ?_
      refine lv_aload_n (pc := 103) hx hb dX0_comeThrough_103 rfl (lv_at hl 1 rfl) ?_
      refine va_get (pc := 104) (D := D) (ci := 0) (v := .ref r) (C := RX0) (T := TX0) (N := 1) hx hb hts hi_X0_comeThrough_X0 hown hK hP 0 rfl rfl 0 (by decide) (hts _ hw_X0_comeThrough_0) (fun _ h9 => h9) rfl dX0_comeThrough_104 ?_
      refine lv_iconst (pc := 107) (v := 3) hx hb dX0_comeThrough_107 (by decide) ?_
      refine b_iald (pc := 108) hx hb hK hP 1 0 rfl rfl 3 rfl (by omega) (by decide) dX0_comeThrough_108 ?_
      refine b_iast (pc := 109) hx hb hK hP hD hS 1 0 rfl rfl (P + 12) rfl (by omega) (by decide) dX0_comeThrough_109 (fun H locs hP hD hS => ?_)
      obtain ⟨f_15, ef_15⟩ : ∃ z : Nat → Int32, z = upd f_14 (P + 12) (f_14 3) := ⟨_, rfl⟩
      have hP : va_P D vwCl [(h, .inr (0, [.ref r])), (r, .inl (cI, 86, .inl f_15))] H := by rw [ef_15]; exact hP
      have hD : va_D A [(h, .inr (0, [.ref r])), (r, .inl (cI, 86, .inl f_15))] := by rw [ef_15]; exact hD
      subst ef_11
      subst ef_12
      subst ef_13
      subst ef_14
      subst ef_15
      subst hQ
      exact b_retV hx hb hr hlocks hS (by first | exact hP | (refine (b_eqP ?_ hP); simp only [h_come, h_come1, h_come2, if_pos c_1, if_neg c_6])) dX0_comeThrough_110
theorem hw_X0_end_0 : (.fieldLink RX0 11 "BeamTurnstiles$Hall" "row" "[I" : Cond) ∈ wsX0_end := by decide +kernel
theorem hi_X0_end_X0 : ∀ w ∈ wsX00, w ∈ wsX0_end := by decide +kernel
set_option maxHeartbeats 4000000 in
set_option maxRecDepth 100000 in
/-- Hall.end -/
theorem c_X0_end (l : Launch) (D : va_G) (cI cC cZ cG : ClassId) (tb lo hi : Nat) (sz : Nat) (h : Nat) (r : Nat) (f : Nat → Int32) (P : Nat) (hp : P + 13 ≤ 86) : Met l yX0_end wsX0_end ({ frames := 2, cells := 0, slots := 0, locals := 41 } : Room) (b_W D (b_T cI cC cZ cG) (b_X tb lo hi) [(h, .inr (0, [.ref r])), (r, .inl (cI, 86, .inl f))] sz [.ref h, .int (nI P)]) (b_Qv D [(h, .inr (0, [.ref r])), (r, .inl (cI, 86, .inl (h_end f P)))] (va_A [(h, .inr (0, [.ref r])), (r, .inl (cI, 86, .inl f))] sz)) 0 0 (va_A [(h, .inr (0, [.ref r])), (r, .inl (cI, 86, .inl f))] sz) := by
  refine b_enterW (Qc := fun A => b_Qv D [(h, .inr (0, [.ref r])), (r, .inl (cI, 86, .inl (h_end f P)))] A) (cc := cX0_end) (maxL := 2) (ret := none) (by decide) rfl (Nat.le_of_ble_eq_true rfl) ?_
  intro p e s m below meth c ls A hx hb hr hml hown hts hlocks hname hP hK hD hA hS hX hl Q hQ
  have hown : s.vm.findClass RX0 = some m.cls := hown
  have hl : lv_has ls 2 [(0, .ref h), (1, .int (nI P))] := hl
  refine lv_aload_n (pc := 0) hx hb dX0_end_0 rfl (lv_at hl 0 rfl) ?_
  refine va_get (pc := 1) (D := D) (ci := 0) (v := .ref r) (C := RX0) (T := TX0) (N := 1) hx hb hts hi_X0_end_X0 hown hK hP 0 rfl rfl 0 (by decide) (hts _ hw_X0_end_0) (fun _ h9 => h9) rfl dX0_end_1 ?_
  refine lv_iconst (pc := 4) (v := 3) hx hb dX0_end_4 (by decide) ?_
  refine b_iald (pc := 5) hx hb hK hP 1 0 rfl rfl 3 rfl (by omega) (by decide) dX0_end_5 ?_
  refine lv_aload_n (pc := 6) hx hb dX0_end_6 rfl (lv_at hl 0 rfl) ?_
  refine va_get (pc := 7) (D := D) (ci := 0) (v := .ref r) (C := RX0) (T := TX0) (N := 1) hx hb hts hi_X0_end_X0 hown hK hP 0 rfl rfl 0 (by decide) (hts _ hw_X0_end_0) (fun _ h9 => h9) rfl dX0_end_7 ?_
  refine lv_iload_n (pc := 10) hx hb dX0_end_10 rfl (lv_at hl 1 rfl) ?_
  refine lv_iconst (pc := 11) (v := 1) hx hb dX0_end_11 (by decide) ?_
  refine lv_iadd (pc := 12) hx hb dX0_end_12 ?_
  refine b_re (nI_add P 1) ?_
  refine b_iald (pc := 13) hx hb hK hP 1 0 rfl rfl (P + 1) rfl (by omega) (by decide) dX0_end_13 ?_
  refine lv_isub (pc := 14) hx hb dX0_end_14 ?_
  refine lv_aload_n (pc := 15) hx hb dX0_end_15 rfl (lv_at hl 0 rfl) ?_
  refine va_get (pc := 16) (D := D) (ci := 0) (v := .ref r) (C := RX0) (T := TX0) (N := 1) hx hb hts hi_X0_end_X0 hown hK hP 0 rfl rfl 0 (by decide) (hts _ hw_X0_end_0) (fun _ h9 => h9) rfl dX0_end_16 ?_
  refine lv_iconst (pc := 19) (v := 0) hx hb dX0_end_19 (by decide) ?_
  refine b_iald (pc := 20) hx hb hK hP 1 0 rfl rfl 0 rfl (by omega) (by decide) dX0_end_20 ?_
  refine lv_icmp_lt (pc := 21) (tgt := 37) hx hb dX0_end_21 (by decide) (fun c_1 => ?_) (fun c_1 => ?_)
  · skip
    have c_1 : ((f 3) - (f (P + 1))) < (f 0) := c_1
    refine lv_aload_n (pc := 37) hx hb dX0_end_37 rfl (lv_at hl 0 rfl) ?_
    refine va_get (pc := 38) (D := D) (ci := 0) (v := .ref r) (C := RX0) (T := TX0) (N := 1) hx hb hts hi_X0_end_X0 hown hK hP 0 rfl rfl 0 (by decide) (hts _ hw_X0_end_0) (fun _ h9 => h9) rfl dX0_end_38 ?_
    refine lv_iload_n (pc := 41) hx hb dX0_end_41 rfl (lv_at hl 1 rfl) ?_
    refine lv_iconst (pc := 42) (v := 3) hx hb dX0_end_42 (by decide) ?_
    refine lv_iadd (pc := 43) hx hb dX0_end_43 ?_
    refine b_re (nI_add P 3) ?_
    refine b_iald (pc := 44) hx hb hK hP 1 0 rfl rfl (P + 3) rfl (by omega) (by decide) dX0_end_44 ?_
    refine lv_if_ne (pc := 45) (tgt := 64) hx hb dX0_end_45 (by decide) (fun c_2 => ?_) (fun c_2 => ?_)
    · skip
      have c_2 : ¬ ((f (P + 3)) = 0) := c_2
      refine lv_aload_n (pc := 64) hx hb dX0_end_64 rfl (lv_at hl 0 rfl) ?_
      refine va_get (pc := 65) (D := D) (ci := 0) (v := .ref r) (C := RX0) (T := TX0) (N := 1) hx hb hts hi_X0_end_X0 hown hK hP 0 rfl rfl 0 (by decide) (hts _ hw_X0_end_0) (fun _ h9 => h9) rfl dX0_end_65 ?_
      refine lv_iload_n (pc := 68) hx hb dX0_end_68 rfl (lv_at hl 1 rfl) ?_
      refine lv_iconst (pc := 69) (v := 2) hx hb dX0_end_69 (by decide) ?_
      refine lv_iadd (pc := 70) hx hb dX0_end_70 ?_
      refine b_re (nI_add P 2) ?_
      refine b_iald (pc := 71) hx hb hK hP 1 0 rfl rfl (P + 2) rfl (by omega) (by decide) dX0_end_71 ?_
      refine lv_iconst (pc := 72) (v := 4) hx hb dX0_end_72 (by decide) ?_
      refine lv_icmp_ne (pc := 73) (tgt := 89) hx hb dX0_end_73 (by decide) (fun c_3 => ?_) (fun c_3 => ?_)
      · skip
        have c_3 : ¬ ((f (P + 2)) = 4) := c_3
        refine lv_aload_n (pc := 89) hx hb dX0_end_89 rfl (lv_at hl 0 rfl) ?_
        refine va_get (pc := 90) (D := D) (ci := 0) (v := .ref r) (C := RX0) (T := TX0) (N := 1) hx hb hts hi_X0_end_X0 hown hK hP 0 rfl rfl 0 (by decide) (hts _ hw_X0_end_0) (fun _ h9 => h9) rfl dX0_end_90 ?_
        refine lv_iload_n (pc := 93) hx hb dX0_end_93 rfl (lv_at hl 1 rfl) ?_
        refine lv_iconst (pc := 94) (v := 2) hx hb dX0_end_94 (by decide) ?_
        refine lv_iadd (pc := 95) hx hb dX0_end_95 ?_
        refine b_re (nI_add P 2) ?_
        refine b_iald (pc := 96) hx hb hK hP 1 0 rfl rfl (P + 2) rfl (by omega) (by decide) dX0_end_96 ?_
        refine lv_bipush (pc := 97) (v := (-4)) hx hb dX0_end_97 (by decide) ?_
        refine lv_icmp_ne (pc := 99) (tgt := 116) hx hb dX0_end_99 (by decide) (fun c_4 => ?_) (fun c_4 => ?_)
        · skip
          have c_4 : ¬ ((f (P + 2)) = (-4)) := c_4
          refine lv_aload_n (pc := 116) hx hb dX0_end_116 rfl (lv_at hl 0 rfl) ?_
          refine va_get (pc := 117) (D := D) (ci := 0) (v := .ref r) (C := RX0) (T := TX0) (N := 1) hx hb hts hi_X0_end_X0 hown hK hP 0 rfl rfl 0 (by decide) (hts _ hw_X0_end_0) (fun _ h9 => h9) rfl dX0_end_117 ?_
          refine lv_iload_n (pc := 120) hx hb dX0_end_120 rfl (lv_at hl 1 rfl) ?_
          refine lv_bipush (pc := 121) (v := 7) hx hb dX0_end_121 (by decide) ?_
          refine lv_iadd (pc := 123) hx hb dX0_end_123 ?_
          refine b_re (nI_add P 7) ?_
          refine lv_dup2_11 (pc := 124) hx hb dX0_end_124 rfl rfl ?_
          refine b_iald (pc := 125) hx hb hK hP 1 0 rfl rfl (P + 7) rfl (by omega) (by decide) dX0_end_125 ?_
          refine lv_iconst (pc := 126) (v := 1) hx hb dX0_end_126 (by decide) ?_
          refine lv_iadd (pc := 127) hx hb dX0_end_127 ?_
          refine b_iast (pc := 128) hx hb hK hP hD hS 1 0 rfl rfl (P + 7) rfl (by omega) (by decide) dX0_end_128 (fun H locs hP hD hS => ?_)
          obtain ⟨f_5, ef_5⟩ : ∃ z : Nat → Int32, z = upd f (P + 7) ((f (P + 7)) + 1) := ⟨_, rfl⟩
          have hP : va_P D vwCl [(h, .inr (0, [.ref r])), (r, .inl (cI, 86, .inl f_5))] H := by rw [ef_5]; exact hP
          have hD : va_D A [(h, .inr (0, [.ref r])), (r, .inl (cI, 86, .inl f_5))] := by rw [ef_5]; exact hD
          subst ef_5
          subst hQ
          exact b_retV hx hb hr hlocks hS (by first | exact hP | (refine (b_eqP ?_ hP); simp only [h_end, h_end1, h_end2, if_pos c_1, if_neg c_2, if_neg c_3, if_neg c_4])) dX0_end_129
        · skip
          have c_4 : (f (P + 2)) = (-4) := c_4
          refine lv_aload_n (pc := 102) hx hb dX0_end_102 rfl (lv_at hl 0 rfl) ?_
          refine lv_iload_n (pc := 103) hx hb dX0_end_103 rfl (lv_at hl 1 rfl) ?_
          refine lv_bipush (pc := 104) (v := 6) hx hb dX0_end_104 (by decide) ?_
          refine b_cV (pc := 106) (w1 := [(h, .inr (0, [.ref r])), (r, .inl (cI, 86, .inl (h_come f P 6)))]) (va_runV (As := [.int (nI P), .int 6]) (rest := []) ⟨hx, hb, hml, hown, hts⟩ (c_X0_comeThrough l D cI cC cZ cG tb lo hi s.heap.size h r f P 6 (by omega) (by omega)) (cwV 2 hts gX0_end_X0_comeThrough rfl rfl rfl hy_X0_comeThrough ⟨Nat.le_of_ble_eq_true rfl, Nat.le_of_ble_eq_true rfl⟩) (b_pWV (wc := [(h, .inr (0, [.ref r])), (r, .inl (cI, 86, .inl f))]) hK hP hD (b_Xok_X tb lo hi) [0, 1] rfl (by decide) rfl (b_Xc hX hD hS hA [0, 1] rfl) (ci := 0) (q0 := 0) rfl rfl) rfl rfl hl.1 rfl (lv_room (Nat.le_of_ble_eq_true rfl)) dX0_end_106 ⟨Nat.zero_le _, Nat.zero_le _⟩) hP hD hS hA [0, 1] rfl rfl (fun H locs hP hD hS => ?_)
          have hP : va_P D vwCl [(h, .inr (0, [.ref r])), (r, .inl (cI, 86, .inl (h_come f P 6)))] H := hP
          have hD : va_D A [(h, .inr (0, [.ref r])), (r, .inl (cI, 86, .inl (h_come f P 6)))] := hD
          refine lv_aload_n (pc := 109) hx hb dX0_end_109 rfl (lv_at hl 0 rfl) ?_
          refine b_cV (pc := 110) (w1 := [(h, .inr (0, [.ref r])), (r, .inl (cI, 86, .inl (h_less (h_come f P 6))))]) (va_runV (As := []) (rest := []) ⟨hx, hb, hml, hown, hts⟩ (c_X0_oneLessInside l D cI cC cZ cG tb lo hi H.size h r (h_come f P 6)) (cwV 0 hts gX0_end_X0_oneLessInside rfl rfl rfl hy_X0_oneLessInside ⟨Nat.le_of_ble_eq_true rfl, Nat.le_of_ble_eq_true rfl⟩) (b_pWV (wc := [(h, .inr (0, [.ref r])), (r, .inl (cI, 86, .inl (h_come f P 6)))]) hK hP hD (b_Xok_X tb lo hi) [0, 1] rfl (by decide) rfl (b_Xc hX hD hS hA [0, 1] rfl) (ci := 0) (q0 := 0) rfl rfl) rfl rfl hl.1 rfl (lv_room (Nat.le_of_ble_eq_true rfl)) dX0_end_110 ⟨Nat.zero_le _, Nat.zero_le _⟩) hP hD hS hA [0, 1] rfl rfl (fun H locs hP hD hS => ?_)
          have hP : va_P D vwCl [(h, .inr (0, [.ref r])), (r, .inl (cI, 86, .inl (h_less (h_come f P 6))))] H := hP
          have hD : va_D A [(h, .inr (0, [.ref r])), (r, .inl (cI, 86, .inl (h_less (h_come f P 6))))] := hD
          refine lv_goto (pc := 113) (tgt := 129) hx hb dX0_end_113 (by decide) ?_
          subst hQ
          exact b_retV hx hb hr hlocks hS (by first | exact hP | (refine (b_eqP ?_ hP); simp only [h_end, h_end1, h_end2, if_pos c_1, if_neg c_2, if_neg c_3, if_pos c_4])) dX0_end_129
      · skip
        have c_3 : (f (P + 2)) = 4 := c_3
        refine lv_aload_n (pc := 76) hx hb dX0_end_76 rfl (lv_at hl 0 rfl) ?_
        refine lv_iload_n (pc := 77) hx hb dX0_end_77 rfl (lv_at hl 1 rfl) ?_
        refine lv_iconst (pc := 78) (v := 5) hx hb dX0_end_78 (by decide) ?_
        refine b_cV (pc := 79) (w1 := [(h, .inr (0, [.ref r])), (r, .inl (cI, 86, .inl (h_come f P 5)))]) (va_runV (As := [.int (nI P), .int 5]) (rest := []) ⟨hx, hb, hml, hown, hts⟩ (c_X0_comeThrough l D cI cC cZ cG tb lo hi s.heap.size h r f P 5 (by omega) (by omega)) (cwV 2 hts gX0_end_X0_comeThrough rfl rfl rfl hy_X0_comeThrough ⟨Nat.le_of_ble_eq_true rfl, Nat.le_of_ble_eq_true rfl⟩) (b_pWV (wc := [(h, .inr (0, [.ref r])), (r, .inl (cI, 86, .inl f))]) hK hP hD (b_Xok_X tb lo hi) [0, 1] rfl (by decide) rfl (b_Xc hX hD hS hA [0, 1] rfl) (ci := 0) (q0 := 0) rfl rfl) rfl rfl hl.1 rfl (lv_room (Nat.le_of_ble_eq_true rfl)) dX0_end_79 ⟨Nat.zero_le _, Nat.zero_le _⟩) hP hD hS hA [0, 1] rfl rfl (fun H locs hP hD hS => ?_)
        have hP : va_P D vwCl [(h, .inr (0, [.ref r])), (r, .inl (cI, 86, .inl (h_come f P 5)))] H := hP
        have hD : va_D A [(h, .inr (0, [.ref r])), (r, .inl (cI, 86, .inl (h_come f P 5)))] := hD
        refine lv_aload_n (pc := 82) hx hb dX0_end_82 rfl (lv_at hl 0 rfl) ?_
        refine b_cV (pc := 83) (w1 := [(h, .inr (0, [.ref r])), (r, .inl (cI, 86, .inl (h_more (h_come f P 5))))]) (va_runV (As := []) (rest := []) ⟨hx, hb, hml, hown, hts⟩ (c_X0_oneMoreInside l D cI cC cZ cG tb lo hi H.size h r (h_come f P 5)) (cwV 0 hts gX0_end_X0_oneMoreInside rfl rfl rfl hy_X0_oneMoreInside ⟨Nat.le_of_ble_eq_true rfl, Nat.le_of_ble_eq_true rfl⟩) (b_pWV (wc := [(h, .inr (0, [.ref r])), (r, .inl (cI, 86, .inl (h_come f P 5)))]) hK hP hD (b_Xok_X tb lo hi) [0, 1] rfl (by decide) rfl (b_Xc hX hD hS hA [0, 1] rfl) (ci := 0) (q0 := 0) rfl rfl) rfl rfl hl.1 rfl (lv_room (Nat.le_of_ble_eq_true rfl)) dX0_end_83 ⟨Nat.zero_le _, Nat.zero_le _⟩) hP hD hS hA [0, 1] rfl rfl (fun H locs hP hD hS => ?_)
        have hP : va_P D vwCl [(h, .inr (0, [.ref r])), (r, .inl (cI, 86, .inl (h_more (h_come f P 5))))] H := hP
        have hD : va_D A [(h, .inr (0, [.ref r])), (r, .inl (cI, 86, .inl (h_more (h_come f P 5))))] := hD
        refine lv_goto (pc := 86) (tgt := 129) hx hb dX0_end_86 (by decide) ?_
        subst hQ
        exact b_retV hx hb hr hlocks hS (by first | exact hP | (refine (b_eqP ?_ hP); simp only [h_end, h_end1, h_end2, if_pos c_1, if_neg c_2, if_pos c_3])) dX0_end_129
    · skip
      have c_2 : (f (P + 3)) = 0 := c_2
      refine lv_aload_n (pc := 48) hx hb dX0_end_48 rfl (lv_at hl 0 rfl) ?_
      refine va_get (pc := 49) (D := D) (ci := 0) (v := .ref r) (C := RX0) (T := TX0) (N := 1) hx hb hts hi_X0_end_X0 hown hK hP 0 rfl rfl 0 (by decide) (hts _ hw_X0_end_0) (fun _ h9 => h9) rfl dX0_end_49 ?_
      refine lv_iload_n (pc := 52) hx hb dX0_end_52 rfl (lv_at hl 1 rfl) ?_
      refine lv_bipush (pc := 53) (v := 8) hx hb dX0_end_53 (by decide) ?_
      refine lv_iadd (pc := 55) hx hb dX0_end_55 ?_
      refine b_re (nI_add P 8) ?_
      refine lv_dup2_11 (pc := 56) hx hb dX0_end_56 rfl rfl ?_
      refine b_iald (pc := 57) hx hb hK hP 1 0 rfl rfl (P + 8) rfl (by omega) (by decide) dX0_end_57 ?_
      refine lv_iconst (pc := 58) (v := 1) hx hb dX0_end_58 (by decide) ?_
      refine lv_iadd (pc := 59) hx hb dX0_end_59 ?_
      refine b_iast (pc := 60) hx hb hK hP hD hS 1 0 rfl rfl (P + 8) rfl (by omega) (by decide) dX0_end_60 (fun H locs hP hD hS => ?_)
      obtain ⟨f_6, ef_6⟩ : ∃ z : Nat → Int32, z = upd f (P + 8) ((f (P + 8)) + 1) := ⟨_, rfl⟩
      have hP : va_P D vwCl [(h, .inr (0, [.ref r])), (r, .inl (cI, 86, .inl f_6))] H := by rw [ef_6]; exact hP
      have hD : va_D A [(h, .inr (0, [.ref r])), (r, .inl (cI, 86, .inl f_6))] := by rw [ef_6]; exact hD
      refine lv_goto (pc := 61) (tgt := 129) hx hb dX0_end_61 (by decide) ?_
      subst ef_6
      subst hQ
      exact b_retV hx hb hr hlocks hS (by first | exact hP | (refine (b_eqP ?_ hP); simp only [h_end, h_end1, h_end2, if_pos c_1, if_pos c_2])) dX0_end_129
  · skip
    have c_1 : ¬ (((f 3) - (f (P + 1))) < (f 0)) := c_1
    refine lv_aload_n (pc := 24) hx hb dX0_end_24 rfl (lv_at hl 0 rfl) ?_
    refine va_get (pc := 25) (D := D) (ci := 0) (v := .ref r) (C := RX0) (T := TX0) (N := 1) hx hb hts hi_X0_end_X0 hown hK hP 0 rfl rfl 0 (by decide) (hts _ hw_X0_end_0) (fun _ h9 => h9) rfl dX0_end_25 ?_
    refine lv_iload_n (pc := 28) hx hb dX0_end_28 rfl (lv_at hl 1 rfl) ?_
    refine lv_bipush (pc := 29) (v := 9) hx hb dX0_end_29 (by decide) ?_
    refine lv_iadd (pc := 31) hx hb dX0_end_31 ?_
    refine b_re (nI_add P 9) ?_
    refine lv_dup2_11 (pc := 32) hx hb dX0_end_32 rfl rfl ?_
    refine b_iald (pc := 33) hx hb hK hP 1 0 rfl rfl (P + 9) rfl (by omega) (by decide) dX0_end_33 ?_
    refine lv_iconst (pc := 34) (v := 1) hx hb dX0_end_34 (by decide) ?_
    refine lv_iadd (pc := 35) hx hb dX0_end_35 ?_
    refine b_iast (pc := 36) hx hb hK hP hD hS 1 0 rfl rfl (P + 9) rfl (by omega) (by decide) dX0_end_36 (fun H locs hP hD hS => ?_)
    obtain ⟨f_7, ef_7⟩ : ∃ z : Nat → Int32, z = upd f (P + 9) ((f (P + 9)) + 1) := ⟨_, rfl⟩
    have hP : va_P D vwCl [(h, .inr (0, [.ref r])), (r, .inl (cI, 86, .inl f_7))] H := by rw [ef_7]; exact hP
    have hD : va_D A [(h, .inr (0, [.ref r])), (r, .inl (cI, 86, .inl f_7))] := by rw [ef_7]; exact hD
    refine lv_aload_n (pc := 37) hx hb dX0_end_37 rfl (lv_at hl 0 rfl) ?_
    refine va_get (pc := 38) (D := D) (ci := 0) (v := .ref r) (C := RX0) (T := TX0) (N := 1) hx hb hts hi_X0_end_X0 hown hK hP 0 rfl rfl 0 (by decide) (hts _ hw_X0_end_0) (fun _ h9 => h9) rfl dX0_end_38 ?_
    refine lv_iload_n (pc := 41) hx hb dX0_end_41 rfl (lv_at hl 1 rfl) ?_
    refine lv_iconst (pc := 42) (v := 3) hx hb dX0_end_42 (by decide) ?_
    refine lv_iadd (pc := 43) hx hb dX0_end_43 ?_
    refine b_re (nI_add P 3) ?_
    refine b_iald (pc := 44) hx hb hK hP 1 0 rfl rfl (P + 3) rfl (by omega) (by decide) dX0_end_44 ?_
    refine lv_if_ne (pc := 45) (tgt := 64) hx hb dX0_end_45 (by decide) (fun c_8 => ?_) (fun c_8 => ?_)
    · skip
      have c_8 : ¬ ((f_7 (P + 3)) = 0) := c_8
      refine lv_aload_n (pc := 64) hx hb dX0_end_64 rfl (lv_at hl 0 rfl) ?_
      refine va_get (pc := 65) (D := D) (ci := 0) (v := .ref r) (C := RX0) (T := TX0) (N := 1) hx hb hts hi_X0_end_X0 hown hK hP 0 rfl rfl 0 (by decide) (hts _ hw_X0_end_0) (fun _ h9 => h9) rfl dX0_end_65 ?_
      refine lv_iload_n (pc := 68) hx hb dX0_end_68 rfl (lv_at hl 1 rfl) ?_
      refine lv_iconst (pc := 69) (v := 2) hx hb dX0_end_69 (by decide) ?_
      refine lv_iadd (pc := 70) hx hb dX0_end_70 ?_
      refine b_re (nI_add P 2) ?_
      refine b_iald (pc := 71) hx hb hK hP 1 0 rfl rfl (P + 2) rfl (by omega) (by decide) dX0_end_71 ?_
      refine lv_iconst (pc := 72) (v := 4) hx hb dX0_end_72 (by decide) ?_
      refine lv_icmp_ne (pc := 73) (tgt := 89) hx hb dX0_end_73 (by decide) (fun c_9 => ?_) (fun c_9 => ?_)
      · skip
        have c_9 : ¬ ((f_7 (P + 2)) = 4) := c_9
        refine lv_aload_n (pc := 89) hx hb dX0_end_89 rfl (lv_at hl 0 rfl) ?_
        refine va_get (pc := 90) (D := D) (ci := 0) (v := .ref r) (C := RX0) (T := TX0) (N := 1) hx hb hts hi_X0_end_X0 hown hK hP 0 rfl rfl 0 (by decide) (hts _ hw_X0_end_0) (fun _ h9 => h9) rfl dX0_end_90 ?_
        refine lv_iload_n (pc := 93) hx hb dX0_end_93 rfl (lv_at hl 1 rfl) ?_
        refine lv_iconst (pc := 94) (v := 2) hx hb dX0_end_94 (by decide) ?_
        refine lv_iadd (pc := 95) hx hb dX0_end_95 ?_
        refine b_re (nI_add P 2) ?_
        refine b_iald (pc := 96) hx hb hK hP 1 0 rfl rfl (P + 2) rfl (by omega) (by decide) dX0_end_96 ?_
        refine lv_bipush (pc := 97) (v := (-4)) hx hb dX0_end_97 (by decide) ?_
        refine lv_icmp_ne (pc := 99) (tgt := 116) hx hb dX0_end_99 (by decide) (fun c_10 => ?_) (fun c_10 => ?_)
        · skip
          have c_10 : ¬ ((f_7 (P + 2)) = (-4)) := c_10
          refine lv_aload_n (pc := 116) hx hb dX0_end_116 rfl (lv_at hl 0 rfl) ?_
          refine va_get (pc := 117) (D := D) (ci := 0) (v := .ref r) (C := RX0) (T := TX0) (N := 1) hx hb hts hi_X0_end_X0 hown hK hP 0 rfl rfl 0 (by decide) (hts _ hw_X0_end_0) (fun _ h9 => h9) rfl dX0_end_117 ?_
          refine lv_iload_n (pc := 120) hx hb dX0_end_120 rfl (lv_at hl 1 rfl) ?_
          refine lv_bipush (pc := 121) (v := 7) hx hb dX0_end_121 (by decide) ?_
          refine lv_iadd (pc := 123) hx hb dX0_end_123 ?_
          refine b_re (nI_add P 7) ?_
          refine lv_dup2_11 (pc := 124) hx hb dX0_end_124 rfl rfl ?_
          refine b_iald (pc := 125) hx hb hK hP 1 0 rfl rfl (P + 7) rfl (by omega) (by decide) dX0_end_125 ?_
          refine lv_iconst (pc := 126) (v := 1) hx hb dX0_end_126 (by decide) ?_
          refine lv_iadd (pc := 127) hx hb dX0_end_127 ?_
          refine b_iast (pc := 128) hx hb hK hP hD hS 1 0 rfl rfl (P + 7) rfl (by omega) (by decide) dX0_end_128 (fun H locs hP hD hS => ?_)
          obtain ⟨f_11, ef_11⟩ : ∃ z : Nat → Int32, z = upd f_7 (P + 7) ((f_7 (P + 7)) + 1) := ⟨_, rfl⟩
          have hP : va_P D vwCl [(h, .inr (0, [.ref r])), (r, .inl (cI, 86, .inl f_11))] H := by rw [ef_11]; exact hP
          have hD : va_D A [(h, .inr (0, [.ref r])), (r, .inl (cI, 86, .inl f_11))] := by rw [ef_11]; exact hD
          subst ef_7
          subst ef_11
          subst hQ
          exact b_retV hx hb hr hlocks hS (by first | exact hP | (refine (b_eqP ?_ hP); simp only [h_end, h_end1, h_end2, if_neg c_1, if_neg c_8, if_neg c_9, if_neg c_10])) dX0_end_129
        · skip
          have c_10 : (f_7 (P + 2)) = (-4) := c_10
          refine lv_aload_n (pc := 102) hx hb dX0_end_102 rfl (lv_at hl 0 rfl) ?_
          refine lv_iload_n (pc := 103) hx hb dX0_end_103 rfl (lv_at hl 1 rfl) ?_
          refine lv_bipush (pc := 104) (v := 6) hx hb dX0_end_104 (by decide) ?_
          refine b_cV (pc := 106) (w1 := [(h, .inr (0, [.ref r])), (r, .inl (cI, 86, .inl (h_come f_7 P 6)))]) (va_runV (As := [.int (nI P), .int 6]) (rest := []) ⟨hx, hb, hml, hown, hts⟩ (c_X0_comeThrough l D cI cC cZ cG tb lo hi H.size h r f_7 P 6 (by omega) (by omega)) (cwV 2 hts gX0_end_X0_comeThrough rfl rfl rfl hy_X0_comeThrough ⟨Nat.le_of_ble_eq_true rfl, Nat.le_of_ble_eq_true rfl⟩) (b_pWV (wc := [(h, .inr (0, [.ref r])), (r, .inl (cI, 86, .inl f_7))]) hK hP hD (b_Xok_X tb lo hi) [0, 1] rfl (by decide) rfl (b_Xc hX hD hS hA [0, 1] rfl) (ci := 0) (q0 := 0) rfl rfl) rfl rfl hl.1 rfl (lv_room (Nat.le_of_ble_eq_true rfl)) dX0_end_106 ⟨Nat.zero_le _, Nat.zero_le _⟩) hP hD hS hA [0, 1] rfl rfl (fun H locs hP hD hS => ?_)
          have hP : va_P D vwCl [(h, .inr (0, [.ref r])), (r, .inl (cI, 86, .inl (h_come f_7 P 6)))] H := hP
          have hD : va_D A [(h, .inr (0, [.ref r])), (r, .inl (cI, 86, .inl (h_come f_7 P 6)))] := hD
          refine lv_aload_n (pc := 109) hx hb dX0_end_109 rfl (lv_at hl 0 rfl) ?_
          refine b_cV (pc := 110) (w1 := [(h, .inr (0, [.ref r])), (r, .inl (cI, 86, .inl (h_less (h_come f_7 P 6))))]) (va_runV (As := []) (rest := []) ⟨hx, hb, hml, hown, hts⟩ (c_X0_oneLessInside l D cI cC cZ cG tb lo hi H.size h r (h_come f_7 P 6)) (cwV 0 hts gX0_end_X0_oneLessInside rfl rfl rfl hy_X0_oneLessInside ⟨Nat.le_of_ble_eq_true rfl, Nat.le_of_ble_eq_true rfl⟩) (b_pWV (wc := [(h, .inr (0, [.ref r])), (r, .inl (cI, 86, .inl (h_come f_7 P 6)))]) hK hP hD (b_Xok_X tb lo hi) [0, 1] rfl (by decide) rfl (b_Xc hX hD hS hA [0, 1] rfl) (ci := 0) (q0 := 0) rfl rfl) rfl rfl hl.1 rfl (lv_room (Nat.le_of_ble_eq_true rfl)) dX0_end_110 ⟨Nat.zero_le _, Nat.zero_le _⟩) hP hD hS hA [0, 1] rfl rfl (fun H locs hP hD hS => ?_)
          have hP : va_P D vwCl [(h, .inr (0, [.ref r])), (r, .inl (cI, 86, .inl (h_less (h_come f_7 P 6))))] H := hP
          have hD : va_D A [(h, .inr (0, [.ref r])), (r, .inl (cI, 86, .inl (h_less (h_come f_7 P 6))))] := hD
          refine lv_goto (pc := 113) (tgt := 129) hx hb dX0_end_113 (by decide) ?_
          subst ef_7
          subst hQ
          exact b_retV hx hb hr hlocks hS (by first | exact hP | (refine (b_eqP ?_ hP); simp only [h_end, h_end1, h_end2, if_neg c_1, if_neg c_8, if_neg c_9, if_pos c_10])) dX0_end_129
      · skip
        have c_9 : (f_7 (P + 2)) = 4 := c_9
        refine lv_aload_n (pc := 76) hx hb dX0_end_76 rfl (lv_at hl 0 rfl) ?_
        refine lv_iload_n (pc := 77) hx hb dX0_end_77 rfl (lv_at hl 1 rfl) ?_
        refine lv_iconst (pc := 78) (v := 5) hx hb dX0_end_78 (by decide) ?_
        refine b_cV (pc := 79) (w1 := [(h, .inr (0, [.ref r])), (r, .inl (cI, 86, .inl (h_come f_7 P 5)))]) (va_runV (As := [.int (nI P), .int 5]) (rest := []) ⟨hx, hb, hml, hown, hts⟩ (c_X0_comeThrough l D cI cC cZ cG tb lo hi H.size h r f_7 P 5 (by omega) (by omega)) (cwV 2 hts gX0_end_X0_comeThrough rfl rfl rfl hy_X0_comeThrough ⟨Nat.le_of_ble_eq_true rfl, Nat.le_of_ble_eq_true rfl⟩) (b_pWV (wc := [(h, .inr (0, [.ref r])), (r, .inl (cI, 86, .inl f_7))]) hK hP hD (b_Xok_X tb lo hi) [0, 1] rfl (by decide) rfl (b_Xc hX hD hS hA [0, 1] rfl) (ci := 0) (q0 := 0) rfl rfl) rfl rfl hl.1 rfl (lv_room (Nat.le_of_ble_eq_true rfl)) dX0_end_79 ⟨Nat.zero_le _, Nat.zero_le _⟩) hP hD hS hA [0, 1] rfl rfl (fun H locs hP hD hS => ?_)
        have hP : va_P D vwCl [(h, .inr (0, [.ref r])), (r, .inl (cI, 86, .inl (h_come f_7 P 5)))] H := hP
        have hD : va_D A [(h, .inr (0, [.ref r])), (r, .inl (cI, 86, .inl (h_come f_7 P 5)))] := hD
        refine lv_aload_n (pc := 82) hx hb dX0_end_82 rfl (lv_at hl 0 rfl) ?_
        refine b_cV (pc := 83) (w1 := [(h, .inr (0, [.ref r])), (r, .inl (cI, 86, .inl (h_more (h_come f_7 P 5))))]) (va_runV (As := []) (rest := []) ⟨hx, hb, hml, hown, hts⟩ (c_X0_oneMoreInside l D cI cC cZ cG tb lo hi H.size h r (h_come f_7 P 5)) (cwV 0 hts gX0_end_X0_oneMoreInside rfl rfl rfl hy_X0_oneMoreInside ⟨Nat.le_of_ble_eq_true rfl, Nat.le_of_ble_eq_true rfl⟩) (b_pWV (wc := [(h, .inr (0, [.ref r])), (r, .inl (cI, 86, .inl (h_come f_7 P 5)))]) hK hP hD (b_Xok_X tb lo hi) [0, 1] rfl (by decide) rfl (b_Xc hX hD hS hA [0, 1] rfl) (ci := 0) (q0 := 0) rfl rfl) rfl rfl hl.1 rfl (lv_room (Nat.le_of_ble_eq_true rfl)) dX0_end_83 ⟨Nat.zero_le _, Nat.zero_le _⟩) hP hD hS hA [0, 1] rfl rfl (fun H locs hP hD hS => ?_)
        have hP : va_P D vwCl [(h, .inr (0, [.ref r])), (r, .inl (cI, 86, .inl (h_more (h_come f_7 P 5))))] H := hP
        have hD : va_D A [(h, .inr (0, [.ref r])), (r, .inl (cI, 86, .inl (h_more (h_come f_7 P 5))))] := hD
        refine lv_goto (pc := 86) (tgt := 129) hx hb dX0_end_86 (by decide) ?_
        subst ef_7
        subst hQ
        exact b_retV hx hb hr hlocks hS (by first | exact hP | (refine (b_eqP ?_ hP); simp only [h_end, h_end1, h_end2, if_neg c_1, if_neg c_8, if_pos c_9])) dX0_end_129
    · skip
      have c_8 : (f_7 (P + 3)) = 0 := c_8
      refine lv_aload_n (pc := 48) hx hb dX0_end_48 rfl (lv_at hl 0 rfl) ?_
      refine va_get (pc := 49) (D := D) (ci := 0) (v := .ref r) (C := RX0) (T := TX0) (N := 1) hx hb hts hi_X0_end_X0 hown hK hP 0 rfl rfl 0 (by decide) (hts _ hw_X0_end_0) (fun _ h9 => h9) rfl dX0_end_49 ?_
      refine lv_iload_n (pc := 52) hx hb dX0_end_52 rfl (lv_at hl 1 rfl) ?_
      refine lv_bipush (pc := 53) (v := 8) hx hb dX0_end_53 (by decide) ?_
      refine lv_iadd (pc := 55) hx hb dX0_end_55 ?_
      refine b_re (nI_add P 8) ?_
      refine lv_dup2_11 (pc := 56) hx hb dX0_end_56 rfl rfl ?_
      refine b_iald (pc := 57) hx hb hK hP 1 0 rfl rfl (P + 8) rfl (by omega) (by decide) dX0_end_57 ?_
      refine lv_iconst (pc := 58) (v := 1) hx hb dX0_end_58 (by decide) ?_
      refine lv_iadd (pc := 59) hx hb dX0_end_59 ?_
      refine b_iast (pc := 60) hx hb hK hP hD hS 1 0 rfl rfl (P + 8) rfl (by omega) (by decide) dX0_end_60 (fun H locs hP hD hS => ?_)
      obtain ⟨f_12, ef_12⟩ : ∃ z : Nat → Int32, z = upd f_7 (P + 8) ((f_7 (P + 8)) + 1) := ⟨_, rfl⟩
      have hP : va_P D vwCl [(h, .inr (0, [.ref r])), (r, .inl (cI, 86, .inl f_12))] H := by rw [ef_12]; exact hP
      have hD : va_D A [(h, .inr (0, [.ref r])), (r, .inl (cI, 86, .inl f_12))] := by rw [ef_12]; exact hD
      refine lv_goto (pc := 61) (tgt := 129) hx hb dX0_end_61 (by decide) ?_
      subst ef_7
      subst ef_12
      subst hQ
      exact b_retV hx hb hr hlocks hS (by first | exact hP | (refine (b_eqP ?_ hP); simp only [h_end, h_end1, h_end2, if_neg c_1, if_pos c_8])) dX0_end_129
theorem hw_X0_begin_0 : (.fieldLink RX0 11 "BeamTurnstiles$Hall" "row" "[I" : Cond) ∈ wsX0_begin := by decide +kernel
theorem hi_X0_begin_X0 : ∀ w ∈ wsX00, w ∈ wsX0_begin := by decide +kernel
set_option maxHeartbeats 4000000 in
set_option maxRecDepth 100000 in
/-- Hall.begin -/
theorem c_X0_begin (l : Launch) (D : va_G) (cI cC cZ cG : ClassId) (tb lo hi : Nat) (sz : Nat) (h : Nat) (r : Nat) (f : Nat → Int32) (P : Nat) (hp : P + 13 ≤ 86) : Met l yX0_begin wsX0_begin ({ frames := 0, cells := 0, slots := 0, locals := 0 } : Room) (b_W D (b_T cI cC cZ cG) (b_X tb lo hi) [(h, .inr (0, [.ref r])), (r, .inl (cI, 86, .inl f))] sz [.ref h, .int (nI P)]) (b_Qv D [(h, .inr (0, [.ref r])), (r, .inl (cI, 86, .inl (h_begin f P)))] (va_A [(h, .inr (0, [.ref r])), (r, .inl (cI, 86, .inl f))] sz)) 0 0 (va_A [(h, .inr (0, [.ref r])), (r, .inl (cI, 86, .inl f))] sz) := by
  refine b_enterW (Qc := fun A => b_Qv D [(h, .inr (0, [.ref r])), (r, .inl (cI, 86, .inl (h_begin f P)))] A) (cc := cX0_begin) (maxL := 2) (ret := none) (by decide) rfl (Nat.le_of_ble_eq_true rfl) ?_
  intro p e s m below meth c ls A hx hb hr hml hown hts hlocks hname hP hK hD hA hS hX hl Q hQ
  have hown : s.vm.findClass RX0 = some m.cls := hown
  have hl : lv_has ls 2 [(0, .ref h), (1, .int (nI P))] := hl
  refine lv_aload_n (pc := 0) hx hb dX0_begin_0 rfl (lv_at hl 0 rfl) ?_
  refine va_get (pc := 1) (D := D) (ci := 0) (v := .ref r) (C := RX0) (T := TX0) (N := 1) hx hb hts hi_X0_begin_X0 hown hK hP 0 rfl rfl 0 (by decide) (hts _ hw_X0_begin_0) (fun _ h9 => h9) rfl dX0_begin_1 ?_
  refine lv_iload_n (pc := 4) hx hb dX0_begin_4 rfl (lv_at hl 1 rfl) ?_
  refine lv_iconst (pc := 5) (v := 1) hx hb dX0_begin_5 (by decide) ?_
  refine lv_iadd (pc := 6) hx hb dX0_begin_6 ?_
  refine b_re (nI_add P 1) ?_
  refine lv_aload_n (pc := 7) hx hb dX0_begin_7 rfl (lv_at hl 0 rfl) ?_
  refine va_get (pc := 8) (D := D) (ci := 0) (v := .ref r) (C := RX0) (T := TX0) (N := 1) hx hb hts hi_X0_begin_X0 hown hK hP 0 rfl rfl 0 (by decide) (hts _ hw_X0_begin_0) (fun _ h9 => h9) rfl dX0_begin_8 ?_
  refine lv_iconst (pc := 11) (v := 3) hx hb dX0_begin_11 (by decide) ?_
  refine b_iald (pc := 12) hx hb hK hP 1 0 rfl rfl 3 rfl (by omega) (by decide) dX0_begin_12 ?_
  refine b_iast (pc := 13) hx hb hK hP hD hS 1 0 rfl rfl (P + 1) rfl (by omega) (by decide) dX0_begin_13 (fun H locs hP hD hS => ?_)
  obtain ⟨f_1, ef_1⟩ : ∃ z : Nat → Int32, z = upd f (P + 1) (f 3) := ⟨_, rfl⟩
  have hP : va_P D vwCl [(h, .inr (0, [.ref r])), (r, .inl (cI, 86, .inl f_1))] H := by rw [ef_1]; exact hP
  have hD : va_D A [(h, .inr (0, [.ref r])), (r, .inl (cI, 86, .inl f_1))] := by rw [ef_1]; exact hD
  refine lv_aload_n (pc := 14) hx hb dX0_begin_14 rfl (lv_at hl 0 rfl) ?_
  refine va_get (pc := 15) (D := D) (ci := 0) (v := .ref r) (C := RX0) (T := TX0) (N := 1) hx hb hts hi_X0_begin_X0 hown hK hP 0 rfl rfl 0 (by decide) (hts _ hw_X0_begin_0) (fun _ h9 => h9) rfl dX0_begin_15 ?_
  refine lv_iload_n (pc := 18) hx hb dX0_begin_18 rfl (lv_at hl 1 rfl) ?_
  refine lv_iconst (pc := 19) (v := 2) hx hb dX0_begin_19 (by decide) ?_
  refine lv_iadd (pc := 20) hx hb dX0_begin_20 ?_
  refine b_re (nI_add P 2) ?_
  refine lv_iconst (pc := 21) (v := 0) hx hb dX0_begin_21 (by decide) ?_
  refine b_iast (pc := 22) hx hb hK hP hD hS 1 0 rfl rfl (P + 2) rfl (by omega) (by decide) dX0_begin_22 (fun H locs hP hD hS => ?_)
  obtain ⟨f_2, ef_2⟩ : ∃ z : Nat → Int32, z = upd f_1 (P + 2) 0 := ⟨_, rfl⟩
  have hP : va_P D vwCl [(h, .inr (0, [.ref r])), (r, .inl (cI, 86, .inl f_2))] H := by rw [ef_2]; exact hP
  have hD : va_D A [(h, .inr (0, [.ref r])), (r, .inl (cI, 86, .inl f_2))] := by rw [ef_2]; exact hD
  refine lv_aload_n (pc := 23) hx hb dX0_begin_23 rfl (lv_at hl 0 rfl) ?_
  refine va_get (pc := 24) (D := D) (ci := 0) (v := .ref r) (C := RX0) (T := TX0) (N := 1) hx hb hts hi_X0_begin_X0 hown hK hP 0 rfl rfl 0 (by decide) (hts _ hw_X0_begin_0) (fun _ h9 => h9) rfl dX0_begin_24 ?_
  refine lv_iload_n (pc := 27) hx hb dX0_begin_27 rfl (lv_at hl 1 rfl) ?_
  refine lv_iconst (pc := 28) (v := 3) hx hb dX0_begin_28 (by decide) ?_
  refine lv_iadd (pc := 29) hx hb dX0_begin_29 ?_
  refine b_re (nI_add P 3) ?_
  refine lv_iconst (pc := 30) (v := 1) hx hb dX0_begin_30 (by decide) ?_
  refine b_iast (pc := 31) hx hb hK hP hD hS 1 0 rfl rfl (P + 3) rfl (by omega) (by decide) dX0_begin_31 (fun H locs hP hD hS => ?_)
  obtain ⟨f_3, ef_3⟩ : ∃ z : Nat → Int32, z = upd f_2 (P + 3) 1 := ⟨_, rfl⟩
  have hP : va_P D vwCl [(h, .inr (0, [.ref r])), (r, .inl (cI, 86, .inl f_3))] H := by rw [ef_3]; exact hP
  have hD : va_D A [(h, .inr (0, [.ref r])), (r, .inl (cI, 86, .inl f_3))] := by rw [ef_3]; exact hD
  subst ef_1
  subst ef_2
  subst ef_3
  subst hQ
  exact b_retV hx hb hr hlocks hS (by first | exact hP | (refine (b_eqP ?_ hP); simp only [h_begin])) dX0_begin_32
theorem hw_X0_hasRoomFor_0 : (.fieldLink RX0 11 "BeamTurnstiles$Hall" "row" "[I" : Cond) ∈ wsX0_hasRoomFor := by decide +kernel
theorem hi_X0_hasRoomFor_X0 : ∀ w ∈ wsX00, w ∈ wsX0_hasRoomFor := by decide +kernel
theorem hw_X0_hasRoomFor_2 : (.constant RX0 42 (99999) : Cond) ∈ wsX0_hasRoomFor := by decide +kernel
set_option maxHeartbeats 4000000 in
set_option maxRecDepth 100000 in
theorem c_X0_hasRoomFor (l : Launch) (D : va_G) (cI cC cZ cG : ClassId) (h : Nat) (r : Nat) (f : Nat → Int32) (t : Int32) : Met l yX0_hasRoomFor wsX0_hasRoomFor ({ frames := 0, cells := 0, slots := 0, locals := 0 } : Room) (b_R D (b_T cI cC cZ cG) [(h, .inr (0, [.ref r])), (r, .inl (cI, 86, .inl f))] [.ref h, .int t]) (vp_Si (fun r => r = b_i (¬ 99999 < f 3 + t))) 0 0 (fun _ => False) := by
  refine b_enterR (cc := cX0_hasRoomFor) (maxL := 2) (ret := (some .boolean)) (by decide) rfl (Nat.le_of_ble_eq_true rfl) ?_
  intro p e s m below meth c ls hx hb hr hml hown hts hlocks hP hK hl Q hQ
  have hown : s.vm.findClass RX0 = some m.cls := hown
  have hl : lv_has ls 2 [(0, .ref h), (1, .int t)] := hl
  refine lv_aload_n (pc := 0) hx hb dX0_hasRoomFor_0 rfl (lv_at hl 0 rfl) ?_
  refine va_get (pc := 1) (D := D) (ci := 0) (v := .ref r) (C := RX0) (T := TX0) (N := 1) hx hb hts hi_X0_hasRoomFor_X0 hown hK hP 0 rfl rfl 0 (by decide) (hts _ hw_X0_hasRoomFor_0) (fun _ h9 => h9) rfl dX0_hasRoomFor_1 ?_
  refine lv_iconst (pc := 4) (v := 3) hx hb dX0_hasRoomFor_4 (by decide) ?_
  refine b_iald (pc := 5) hx hb hK hP 1 0 rfl rfl 3 rfl (by omega) (by decide) dX0_hasRoomFor_5 ?_
  refine lv_iload_n (pc := 6) hx hb dX0_hasRoomFor_6 rfl (lv_at hl 1 rfl) ?_
  refine lv_iadd (pc := 7) hx hb dX0_hasRoomFor_7 ?_
  refine lv_ldc (pc := 8) hx hb hown (hts _ hw_X0_hasRoomFor_2) dX0_hasRoomFor_8 ?_
  refine lv_icmp_gt (pc := 10) (tgt := 17) hx hb dX0_hasRoomFor_10 (by decide) (fun c_1 => ?_) (fun c_1 => ?_)
  · skip
    have c_1 : 99999 < ((f 3) + t) := c_1
    refine lv_iconst (pc := 17) (v := 0) hx hb dX0_hasRoomFor_17 (by decide) ?_
    subst hQ
    exact b_retRZ hx hb hr hlocks rfl ((b_i_f (by first | assumption | (intro h9; exact absurd h9.1 (by assumption)) | (intro h9; exact h9.2 (by assumption)) | (intro h9; exact absurd (by assumption) h9))).symm) dX0_hasRoomFor_18
  · skip
    have c_1 : ¬ (99999 < ((f 3) + t)) := c_1
    refine lv_iconst (pc := 13) (v := 1) hx hb dX0_hasRoomFor_13 (by decide) ?_
    refine lv_goto (pc := 14) (tgt := 18) hx hb dX0_hasRoomFor_14 (by decide) ?_
    subst hQ
    exact b_retRZ hx hb hr hlocks rfl ((b_i_t (by first | assumption | (refine ⟨?_, ?_⟩ <;> assumption))).symm) dX0_hasRoomFor_18
theorem hw_X0_goBy_0 : (.fieldLink RX0 11 "BeamTurnstiles$Hall" "row" "[I" : Cond) ∈ wsX0_goBy := by decide +kernel
theorem hi_X0_goBy_X0 : ∀ w ∈ wsX00, w ∈ wsX0_goBy := by decide +kernel
set_option maxHeartbeats 4000000 in
set_option maxRecDepth 100000 in
theorem c_X0_goBy (l : Launch) (D : va_G) (cI cC cZ cG : ClassId) (tb lo hi : Nat) (sz : Nat) (h : Nat) (r : Nat) (f : Nat → Int32) (t : Int32) : Met l yX0_goBy wsX0_goBy ({ frames := 0, cells := 0, slots := 0, locals := 0 } : Room) (b_W D (b_T cI cC cZ cG) (b_X tb lo hi) [(h, .inr (0, [.ref r])), (r, .inl (cI, 86, .inl f))] sz [.ref h, .int t]) (b_Qv D [(h, .inr (0, [.ref r])), (r, .inl (cI, 86, .inl (h_goBy f t)))] (va_A [(h, .inr (0, [.ref r])), (r, .inl (cI, 86, .inl f))] sz)) 0 0 (va_A [(h, .inr (0, [.ref r])), (r, .inl (cI, 86, .inl f))] sz) := by
  refine b_enterW (Qc := fun A => b_Qv D [(h, .inr (0, [.ref r])), (r, .inl (cI, 86, .inl (h_goBy f t)))] A) (cc := cX0_goBy) (maxL := 2) (ret := none) (by decide) rfl (Nat.le_of_ble_eq_true rfl) ?_
  intro p e s m below meth c ls A hx hb hr hml hown hts hlocks hname hP hK hD hA hS hX hl Q hQ
  have hown : s.vm.findClass RX0 = some m.cls := hown
  have hl : lv_has ls 2 [(0, .ref h), (1, .int t)] := hl
  refine lv_aload_n (pc := 0) hx hb dX0_goBy_0 rfl (lv_at hl 0 rfl) ?_
  refine va_get (pc := 1) (D := D) (ci := 0) (v := .ref r) (C := RX0) (T := TX0) (N := 1) hx hb hts hi_X0_goBy_X0 hown hK hP 0 rfl rfl 0 (by decide) (hts _ hw_X0_goBy_0) (fun _ h9 => h9) rfl dX0_goBy_1 ?_
  refine lv_iconst (pc := 4) (v := 3) hx hb dX0_goBy_4 (by decide) ?_
  refine lv_dup2_11 (pc := 5) hx hb dX0_goBy_5 rfl rfl ?_
  refine b_iald (pc := 6) hx hb hK hP 1 0 rfl rfl 3 rfl (by omega) (by decide) dX0_goBy_6 ?_
  refine lv_iload_n (pc := 7) hx hb dX0_goBy_7 rfl (lv_at hl 1 rfl) ?_
  refine lv_iadd (pc := 8) hx hb dX0_goBy_8 ?_
  refine b_iast (pc := 9) hx hb hK hP hD hS 1 0 rfl rfl 3 rfl (by omega) (by decide) dX0_goBy_9 (fun H locs hP hD hS => ?_)
  obtain ⟨f_1, ef_1⟩ : ∃ z : Nat → Int32, z = upd f 3 ((f 3) + t) := ⟨_, rfl⟩
  have hP : va_P D vwCl [(h, .inr (0, [.ref r])), (r, .inl (cI, 86, .inl f_1))] H := by rw [ef_1]; exact hP
  have hD : va_D A [(h, .inr (0, [.ref r])), (r, .inl (cI, 86, .inl f_1))] := by rw [ef_1]; exact hD
  subst ef_1
  subst hQ
  exact b_retV hx hb hr hlocks hS (by first | exact hP | (refine (b_eqP ?_ hP); simp only [h_goBy])) dX0_goBy_10
theorem hw_X0_isUnderWay_0 : (.fieldLink RX0 11 "BeamTurnstiles$Hall" "row" "[I" : Cond) ∈ wsX0_isUnderWay := by decide +kernel
theorem hi_X0_isUnderWay_X0 : ∀ w ∈ wsX00, w ∈ wsX0_isUnderWay := by decide +kernel
set_option maxHeartbeats 4000000 in
set_option maxRecDepth 100000 in
theorem c_X0_isUnderWay (l : Launch) (D : va_G) (cI cC cZ cG : ClassId) (h : Nat) (r : Nat) (f : Nat → Int32) (g : Nat) (hg : g < 6) : Met l yX0_isUnderWay wsX0_isUnderWay ({ frames := 1, cells := 0, slots := 0, locals := 20 } : Room) (b_R D (b_T cI cC cZ cG) [(h, .inr (0, [.ref r])), (r, .inl (cI, 86, .inl f))] [.ref h, .int (nI g)]) (vp_Si (fun r => r = b_i (¬ f (8 + g * 13 + 0) = 0))) 0 0 (fun _ => False) := by
  refine b_enterR (cc := cX0_isUnderWay) (maxL := 2) (ret := (some .boolean)) (by decide) rfl (Nat.le_of_ble_eq_true rfl) ?_
  intro p e s m below meth c ls hx hb hr hml hown hts hlocks hP hK hl Q hQ
  have hown : s.vm.findClass RX0 = some m.cls := hown
  have hl : lv_has ls 2 [(0, .ref h), (1, .int (nI g))] := hl
  refine lv_aload_n (pc := 0) hx hb dX0_isUnderWay_0 rfl (lv_at hl 0 rfl) ?_
  refine va_get (pc := 1) (D := D) (ci := 0) (v := .ref r) (C := RX0) (T := TX0) (N := 1) hx hb hts hi_X0_isUnderWay_X0 hown hK hP 0 rfl rfl 0 (by decide) (hts _ hw_X0_isUnderWay_0) (fun _ h9 => h9) rfl dX0_isUnderWay_1 ?_
  refine lv_iload_n (pc := 4) hx hb dX0_isUnderWay_4 rfl (lv_at hl 1 rfl) ?_
  refine b_cR (pc := 5) (va_runS (As := [.int (nI g)]) (rest := [.ref r]) ⟨hx, hb, hml, hown, hts⟩ (c_X0_partOf l D cI cC cZ cG g) (va_cwS 1 hts gX0_isUnderWay_X0_partOf rfl rfl rfl hyS_X0_partOf ⟨Nat.le_of_ble_eq_true rfl, Nat.le_of_ble_eq_true rfl⟩) (b_pRS (wc := []) hK hP [] rfl) rfl rfl hl.1 rfl (lv_room (Nat.le_of_ble_eq_true rfl)) dX0_isUnderWay_5 ⟨Nat.zero_le _, Nat.zero_le _⟩) ?_
  refine lv_iconst (pc := 8) (v := 0) hx hb dX0_isUnderWay_8 (by decide) ?_
  refine lv_iadd (pc := 9) hx hb dX0_isUnderWay_9 ?_
  refine b_re (nI_add (8 + g * 13) 0) ?_
  refine b_iald (pc := 10) hx hb hK hP 1 0 rfl rfl (8 + g * 13 + 0) rfl (by omega) (by decide) dX0_isUnderWay_10 ?_
  refine lv_if_eq (pc := 11) (tgt := 18) hx hb dX0_isUnderWay_11 (by decide) (fun c_1 => ?_) (fun c_1 => ?_)
  · skip
    have c_1 : (f (8 + g * 13 + 0)) = 0 := c_1
    refine lv_iconst (pc := 18) (v := 0) hx hb dX0_isUnderWay_18 (by decide) ?_
    subst hQ
    exact b_retRZ hx hb hr hlocks rfl ((b_i_f (by first | assumption | (intro h9; exact absurd h9.1 (by assumption)) | (intro h9; exact h9.2 (by assumption)) | (intro h9; exact absurd (by assumption) h9))).symm) dX0_isUnderWay_19
  · skip
    have c_1 : ¬ ((f (8 + g * 13 + 0)) = 0) := c_1
    refine lv_iconst (pc := 14) (v := 1) hx hb dX0_isUnderWay_14 (by decide) ?_
    refine lv_goto (pc := 15) (tgt := 19) hx hb dX0_isUnderWay_15 (by decide) ?_
    subst hQ
    exact b_retRZ hx hb hr hlocks rfl ((b_i_t (by first | assumption | (refine ⟨?_, ?_⟩ <;> assumption))).symm) dX0_isUnderWay_19
theorem hw_X0_isSure_0 : (.fieldLink RX0 11 "BeamTurnstiles$Hall" "row" "[I" : Cond) ∈ wsX0_isSure := by decide +kernel
theorem hi_X0_isSure_X0 : ∀ w ∈ wsX00, w ∈ wsX0_isSure := by decide +kernel
set_option maxHeartbeats 4000000 in
set_option maxRecDepth 100000 in
theorem c_X0_isSure (l : Launch) (D : va_G) (cI cC cZ cG : ClassId) (h : Nat) (r : Nat) (f : Nat → Int32) (g : Nat) (hg : g < 6) : Met l yX0_isSure wsX0_isSure ({ frames := 1, cells := 0, slots := 0, locals := 20 } : Room) (b_R D (b_T cI cC cZ cG) [(h, .inr (0, [.ref r])), (r, .inl (cI, 86, .inl f))] [.ref h, .int (nI g)]) (vp_Si (fun r => r = b_i (¬ f (8 + g * 13 + 3) = 0))) 0 0 (fun _ => False) := by
  refine b_enterR (cc := cX0_isSure) (maxL := 2) (ret := (some .boolean)) (by decide) rfl (Nat.le_of_ble_eq_true rfl) ?_
  intro p e s m below meth c ls hx hb hr hml hown hts hlocks hP hK hl Q hQ
  have hown : s.vm.findClass RX0 = some m.cls := hown
  have hl : lv_has ls 2 [(0, .ref h), (1, .int (nI g))] := hl
  refine lv_aload_n (pc := 0) hx hb dX0_isSure_0 rfl (lv_at hl 0 rfl) ?_
  refine va_get (pc := 1) (D := D) (ci := 0) (v := .ref r) (C := RX0) (T := TX0) (N := 1) hx hb hts hi_X0_isSure_X0 hown hK hP 0 rfl rfl 0 (by decide) (hts _ hw_X0_isSure_0) (fun _ h9 => h9) rfl dX0_isSure_1 ?_
  refine lv_iload_n (pc := 4) hx hb dX0_isSure_4 rfl (lv_at hl 1 rfl) ?_
  refine b_cR (pc := 5) (va_runS (As := [.int (nI g)]) (rest := [.ref r]) ⟨hx, hb, hml, hown, hts⟩ (c_X0_partOf l D cI cC cZ cG g) (va_cwS 1 hts gX0_isSure_X0_partOf rfl rfl rfl hyS_X0_partOf ⟨Nat.le_of_ble_eq_true rfl, Nat.le_of_ble_eq_true rfl⟩) (b_pRS (wc := []) hK hP [] rfl) rfl rfl hl.1 rfl (lv_room (Nat.le_of_ble_eq_true rfl)) dX0_isSure_5 ⟨Nat.zero_le _, Nat.zero_le _⟩) ?_
  refine lv_iconst (pc := 8) (v := 3) hx hb dX0_isSure_8 (by decide) ?_
  refine lv_iadd (pc := 9) hx hb dX0_isSure_9 ?_
  refine b_re (nI_add (8 + g * 13) 3) ?_
  refine b_iald (pc := 10) hx hb hK hP 1 0 rfl rfl (8 + g * 13 + 3) rfl (by omega) (by decide) dX0_isSure_10 ?_
  refine lv_if_eq (pc := 11) (tgt := 18) hx hb dX0_isSure_11 (by decide) (fun c_1 => ?_) (fun c_1 => ?_)
  · skip
    have c_1 : (f (8 + g * 13 + 3)) = 0 := c_1
    refine lv_iconst (pc := 18) (v := 0) hx hb dX0_isSure_18 (by decide) ?_
    subst hQ
    exact b_retRZ hx hb hr hlocks rfl ((b_i_f (by first | assumption | (intro h9; exact absurd h9.1 (by assumption)) | (intro h9; exact h9.2 (by assumption)) | (intro h9; exact absurd (by assumption) h9))).symm) dX0_isSure_19
  · skip
    have c_1 : ¬ ((f (8 + g * 13 + 3)) = 0) := c_1
    refine lv_iconst (pc := 14) (v := 1) hx hb dX0_isSure_14 (by decide) ?_
    refine lv_goto (pc := 15) (tgt := 19) hx hb dX0_isSure_15 (by decide) ?_
    subst hQ
    exact b_retRZ hx hb hr hlocks rfl ((b_i_t (by first | assumption | (refine ⟨?_, ?_⟩ <;> assumption))).symm) dX0_isSure_19
theorem hw_X0_placeOf_0 : (.fieldLink RX0 11 "BeamTurnstiles$Hall" "row" "[I" : Cond) ∈ wsX0_placeOf := by decide +kernel
theorem hi_X0_placeOf_X0 : ∀ w ∈ wsX00, w ∈ wsX0_placeOf := by decide +kernel
set_option maxHeartbeats 4000000 in
set_option maxRecDepth 100000 in
theorem c_X0_placeOf (l : Launch) (D : va_G) (cI cC cZ cG : ClassId) (h : Nat) (r : Nat) (f : Nat → Int32) (g : Nat) (hg : g < 6) : Met l yX0_placeOf wsX0_placeOf ({ frames := 1, cells := 0, slots := 0, locals := 20 } : Room) (b_R D (b_T cI cC cZ cG) [(h, .inr (0, [.ref r])), (r, .inl (cI, 86, .inl f))] [.ref h, .int (nI g)]) (vp_Si (fun r => r = f (8 + g * 13 + 2))) 0 0 (fun _ => False) := by
  refine b_enterR (cc := cX0_placeOf) (maxL := 2) (ret := (some .int)) (by decide) rfl (Nat.le_of_ble_eq_true rfl) ?_
  intro p e s m below meth c ls hx hb hr hml hown hts hlocks hP hK hl Q hQ
  have hown : s.vm.findClass RX0 = some m.cls := hown
  have hl : lv_has ls 2 [(0, .ref h), (1, .int (nI g))] := hl
  refine lv_aload_n (pc := 0) hx hb dX0_placeOf_0 rfl (lv_at hl 0 rfl) ?_
  refine va_get (pc := 1) (D := D) (ci := 0) (v := .ref r) (C := RX0) (T := TX0) (N := 1) hx hb hts hi_X0_placeOf_X0 hown hK hP 0 rfl rfl 0 (by decide) (hts _ hw_X0_placeOf_0) (fun _ h9 => h9) rfl dX0_placeOf_1 ?_
  refine lv_iload_n (pc := 4) hx hb dX0_placeOf_4 rfl (lv_at hl 1 rfl) ?_
  refine b_cR (pc := 5) (va_runS (As := [.int (nI g)]) (rest := [.ref r]) ⟨hx, hb, hml, hown, hts⟩ (c_X0_partOf l D cI cC cZ cG g) (va_cwS 1 hts gX0_placeOf_X0_partOf rfl rfl rfl hyS_X0_partOf ⟨Nat.le_of_ble_eq_true rfl, Nat.le_of_ble_eq_true rfl⟩) (b_pRS (wc := []) hK hP [] rfl) rfl rfl hl.1 rfl (lv_room (Nat.le_of_ble_eq_true rfl)) dX0_placeOf_5 ⟨Nat.zero_le _, Nat.zero_le _⟩) ?_
  refine lv_iconst (pc := 8) (v := 2) hx hb dX0_placeOf_8 (by decide) ?_
  refine lv_iadd (pc := 9) hx hb dX0_placeOf_9 ?_
  refine b_re (nI_add (8 + g * 13) 2) ?_
  refine b_iald (pc := 10) hx hb hK hP 1 0 rfl rfl (8 + g * 13 + 2) rfl (by omega) (by decide) dX0_placeOf_10 ?_
  subst hQ
  exact b_retR hx hb hr hlocks (by first | rfl | (simp only [])) dX0_placeOf_11
theorem hw_X0_ticksUnderWay_0 : (.fieldLink RX0 11 "BeamTurnstiles$Hall" "row" "[I" : Cond) ∈ wsX0_ticksUnderWay := by decide +kernel
theorem hi_X0_ticksUnderWay_X0 : ∀ w ∈ wsX00, w ∈ wsX0_ticksUnderWay := by decide +kernel
set_option maxHeartbeats 4000000 in
set_option maxRecDepth 100000 in
theorem c_X0_ticksUnderWay (l : Launch) (D : va_G) (cI cC cZ cG : ClassId) (h : Nat) (r : Nat) (f : Nat → Int32) (g : Nat) (hg : g < 6) : Met l yX0_ticksUnderWay wsX0_ticksUnderWay ({ frames := 1, cells := 0, slots := 0, locals := 20 } : Room) (b_R D (b_T cI cC cZ cG) [(h, .inr (0, [.ref r])), (r, .inl (cI, 86, .inl f))] [.ref h, .int (nI g)]) (vp_Si (fun r => r = f 3 - f (8 + g * 13 + 1))) 0 0 (fun _ => False) := by
  refine b_enterR (cc := cX0_ticksUnderWay) (maxL := 2) (ret := (some .int)) (by decide) rfl (Nat.le_of_ble_eq_true rfl) ?_
  intro p e s m below meth c ls hx hb hr hml hown hts hlocks hP hK hl Q hQ
  have hown : s.vm.findClass RX0 = some m.cls := hown
  have hl : lv_has ls 2 [(0, .ref h), (1, .int (nI g))] := hl
  refine lv_aload_n (pc := 0) hx hb dX0_ticksUnderWay_0 rfl (lv_at hl 0 rfl) ?_
  refine va_get (pc := 1) (D := D) (ci := 0) (v := .ref r) (C := RX0) (T := TX0) (N := 1) hx hb hts hi_X0_ticksUnderWay_X0 hown hK hP 0 rfl rfl 0 (by decide) (hts _ hw_X0_ticksUnderWay_0) (fun _ h9 => h9) rfl dX0_ticksUnderWay_1 ?_
  refine lv_iconst (pc := 4) (v := 3) hx hb dX0_ticksUnderWay_4 (by decide) ?_
  refine b_iald (pc := 5) hx hb hK hP 1 0 rfl rfl 3 rfl (by omega) (by decide) dX0_ticksUnderWay_5 ?_
  refine lv_aload_n (pc := 6) hx hb dX0_ticksUnderWay_6 rfl (lv_at hl 0 rfl) ?_
  refine va_get (pc := 7) (D := D) (ci := 0) (v := .ref r) (C := RX0) (T := TX0) (N := 1) hx hb hts hi_X0_ticksUnderWay_X0 hown hK hP 0 rfl rfl 0 (by decide) (hts _ hw_X0_ticksUnderWay_0) (fun _ h9 => h9) rfl dX0_ticksUnderWay_7 ?_
  refine lv_iload_n (pc := 10) hx hb dX0_ticksUnderWay_10 rfl (lv_at hl 1 rfl) ?_
  refine b_cR (pc := 11) (va_runS (As := [.int (nI g)]) (rest := [.ref r, .int (f 3)]) ⟨hx, hb, hml, hown, hts⟩ (c_X0_partOf l D cI cC cZ cG g) (va_cwS 1 hts gX0_ticksUnderWay_X0_partOf rfl rfl rfl hyS_X0_partOf ⟨Nat.le_of_ble_eq_true rfl, Nat.le_of_ble_eq_true rfl⟩) (b_pRS (wc := []) hK hP [] rfl) rfl rfl hl.1 rfl (lv_room (Nat.le_of_ble_eq_true rfl)) dX0_ticksUnderWay_11 ⟨Nat.zero_le _, Nat.zero_le _⟩) ?_
  refine lv_iconst (pc := 14) (v := 1) hx hb dX0_ticksUnderWay_14 (by decide) ?_
  refine lv_iadd (pc := 15) hx hb dX0_ticksUnderWay_15 ?_
  refine b_re (nI_add (8 + g * 13) 1) ?_
  refine b_iald (pc := 16) hx hb hK hP 1 0 rfl rfl (8 + g * 13 + 1) rfl (by omega) (by decide) dX0_ticksUnderWay_16 ?_
  refine lv_isub (pc := 17) hx hb dX0_ticksUnderWay_17 ?_
  subst hQ
  exact b_retR hx hb hr hlocks (by first | rfl | (simp only [])) dX0_ticksUnderWay_18
theorem hw_X0_isBlocked_0 : (.fieldLink RX0 11 "BeamTurnstiles$Hall" "row" "[I" : Cond) ∈ wsX0_isBlocked := by decide +kernel
theorem hi_X0_isBlocked_X0 : ∀ w ∈ wsX00, w ∈ wsX0_isBlocked := by decide +kernel
set_option maxHeartbeats 4000000 in
set_option maxRecDepth 100000 in
theorem c_X0_isBlocked (l : Launch) (D : va_G) (cI cC cZ cG : ClassId) (h : Nat) (r : Nat) (f : Nat → Int32) (g : Nat) (hg : g < 6) : Met l yX0_isBlocked wsX0_isBlocked ({ frames := 2, cells := 0, slots := 0, locals := 41 } : Room) (b_R D (b_T cI cC cZ cG) [(h, .inr (0, [.ref r])), (r, .inl (cI, 86, .inl f))] [.ref h, .int (nI g)]) (vp_Si (fun r => r = b_i (h_blk f g))) 0 0 (fun _ => False) := by
  refine b_enterR (cc := cX0_isBlocked) (maxL := 2) (ret := (some .boolean)) (by decide) rfl (Nat.le_of_ble_eq_true rfl) ?_
  intro p e s m below meth c ls hx hb hr hml hown hts hlocks hP hK hl Q hQ
  have hown : s.vm.findClass RX0 = some m.cls := hown
  have hl : lv_has ls 2 [(0, .ref h), (1, .int (nI g))] := hl
  refine lv_aload_n (pc := 0) hx hb dX0_isBlocked_0 rfl (lv_at hl 0 rfl) ?_
  refine lv_iload_n (pc := 1) hx hb dX0_isBlocked_1 rfl (lv_at hl 1 rfl) ?_
  refine b_cR (pc := 2) (va_runV (As := [.int (nI g)]) (rest := []) ⟨hx, hb, hml, hown, hts⟩ (c_X0_isUnderWay l D cI cC cZ cG h r f g (by omega)) (cwV 1 hts gX0_isBlocked_X0_isUnderWay rfl rfl rfl hy_X0_isUnderWay ⟨Nat.le_of_ble_eq_true rfl, Nat.le_of_ble_eq_true rfl⟩) (b_pRV (wc := [(h, .inr (0, [.ref r])), (r, .inl (cI, 86, .inl f))]) hK hP [0, 1] rfl (ci := 0) (q0 := 0) rfl rfl) rfl rfl hl.1 rfl (lv_room (Nat.le_of_ble_eq_true rfl)) dX0_isBlocked_2 ⟨Nat.zero_le _, Nat.zero_le _⟩) ?_
  refine lv_if_eq (pc := 5) (tgt := 26) hx hb dX0_isBlocked_5 (by decide) (fun c_1 => ?_) (fun c_1 => ?_)
  · skip
    have c_1 : ¬ (¬ f (8 + g * 13 + 0) = 0) := b_i_0.mp c_1
    refine lv_iconst (pc := 26) (v := 0) hx hb dX0_isBlocked_26 (by decide) ?_
    subst hQ
    exact b_retRZ hx hb hr hlocks rfl ((b_i_f (by first | assumption | (intro h9; exact absurd h9.1 (by assumption)) | (intro h9; exact h9.2 (by assumption)) | (intro h9; exact absurd (by assumption) h9))).symm) dX0_isBlocked_27
  · skip
    have c_1 : ¬ f (8 + g * 13 + 0) = 0 := Classical.not_not.mp (fun h9 => c_1 (b_i_0.mpr h9))
    refine lv_aload_n (pc := 8) hx hb dX0_isBlocked_8 rfl (lv_at hl 0 rfl) ?_
    refine lv_iload_n (pc := 9) hx hb dX0_isBlocked_9 rfl (lv_at hl 1 rfl) ?_
    refine b_cR (pc := 10) (va_runV (As := [.int (nI g)]) (rest := []) ⟨hx, hb, hml, hown, hts⟩ (c_X0_ticksUnderWay l D cI cC cZ cG h r f g (by omega)) (cwV 1 hts gX0_isBlocked_X0_ticksUnderWay rfl rfl rfl hy_X0_ticksUnderWay ⟨Nat.le_of_ble_eq_true rfl, Nat.le_of_ble_eq_true rfl⟩) (b_pRV (wc := [(h, .inr (0, [.ref r])), (r, .inl (cI, 86, .inl f))]) hK hP [0, 1] rfl (ci := 0) (q0 := 0) rfl rfl) rfl rfl hl.1 rfl (lv_room (Nat.le_of_ble_eq_true rfl)) dX0_isBlocked_10 ⟨Nat.zero_le _, Nat.zero_le _⟩) ?_
    refine lv_aload_n (pc := 13) hx hb dX0_isBlocked_13 rfl (lv_at hl 0 rfl) ?_
    refine va_get (pc := 14) (D := D) (ci := 0) (v := .ref r) (C := RX0) (T := TX0) (N := 1) hx hb hts hi_X0_isBlocked_X0 hown hK hP 0 rfl rfl 0 (by decide) (hts _ hw_X0_isBlocked_0) (fun _ h9 => h9) rfl dX0_isBlocked_14 ?_
    refine lv_iconst (pc := 17) (v := 0) hx hb dX0_isBlocked_17 (by decide) ?_
    refine b_iald (pc := 18) hx hb hK hP 1 0 rfl rfl 0 rfl (by omega) (by decide) dX0_isBlocked_18 ?_
    refine lv_icmp_lt (pc := 19) (tgt := 26) hx hb dX0_isBlocked_19 (by decide) (fun c_2 => ?_) (fun c_2 => ?_)
    · skip
      have c_2 : (f 3 - f (8 + g * 13 + 1)) < (f 0) := c_2
      refine lv_iconst (pc := 26) (v := 0) hx hb dX0_isBlocked_26 (by decide) ?_
      subst hQ
      exact b_retRZ hx hb hr hlocks rfl ((b_i_f (by first | assumption | (intro h9; exact absurd h9.1 (by assumption)) | (intro h9; exact h9.2 (by assumption)) | (intro h9; exact absurd (by assumption) h9))).symm) dX0_isBlocked_27
    · skip
      have c_2 : ¬ ((f 3 - f (8 + g * 13 + 1)) < (f 0)) := c_2
      refine lv_iconst (pc := 22) (v := 1) hx hb dX0_isBlocked_22 (by decide) ?_
      refine lv_goto (pc := 23) (tgt := 27) hx hb dX0_isBlocked_23 (by decide) ?_
      subst hQ
      exact b_retRZ hx hb hr hlocks rfl ((b_i_t (by first | assumption | (refine ⟨?_, ?_⟩ <;> assumption))).symm) dX0_isBlocked_27
set_option maxHeartbeats 4000000 in
set_option maxRecDepth 100000 in
theorem c_X0_blockedMask (l : Launch) (D : va_G) (cI cC cZ cG : ClassId) (h : Nat) (r : Nat) (f : Nat → Int32) : Met l yX0_blockedMask wsX0_blockedMask ({ frames := 3, cells := 0, slots := 0, locals := 62 } : Room) (b_R D (b_T cI cC cZ cG) [(h, .inr (0, [.ref r])), (r, .inl (cI, 86, .inl f))] [.ref h]) (vp_Si (fun r => r = h_bm f 6)) 0 0 (fun _ => False) := by
  refine b_enterR (cc := cX0_blockedMask) (maxL := 3) (ret := (some .int)) (by decide) rfl (Nat.le_of_ble_eq_true rfl) ?_
  intro p e s m below meth c ls hx hb hr hml hown hts hlocks hP hK hl Q hQ
  have hown : s.vm.findClass RX0 = some m.cls := hown
  have hl : lv_has ls 3 [(0, .ref h)] := hl
  refine lv_iconst (pc := 0) (v := 0) hx hb dX0_blockedMask_0 (by decide) ?_
  refine lv_istore_n (pc := 1) (lv' := [(1, .int 0), (0, .ref h)]) hx hb dX0_blockedMask_1 rfl hl (by decide) rfl (fun ls hl => ?_)
  refine lv_iconst (pc := 2) (v := 0) hx hb dX0_blockedMask_2 (by decide) ?_
  refine lv_istore_n (pc := 3) (lv' := [(2, .int 0), (1, .int 0), (0, .ref h)]) hx hb dX0_blockedMask_3 rfl hl (by decide) rfl (fun ls hl => ?_)
  have loop_4 : ∀ (n : Nat) (i : Nat) (mk : Int32), (i ≤ 6) → (mk = h_bm f i) → 6 - i < n → ∀ (ls : Array Slot), lv_has ls 3 [(2, .int (nI i)), (1, .int mk), (0, .ref h)] → W p l e ({ frames := 3, cells := 0, slots := 0, locals := 62 } : Room) s m ([.ref h] : List Value).toArray below meth c s.heap [] 0 0 Q (F0 m 4 ls []) := by
    intro n
    induction n with
    | zero => intro i mk hi hm hn ls hl; exact absurd hn (Nat.not_lt_zero _)
    | succ n ih_4 =>
      intro i mk hi hm hn ls hl
      refine lv_iload_n (pc := 4) hx hb dX0_blockedMask_4 rfl (lv_at hl 0 rfl) ?_
      refine lv_bipush (pc := 5) (v := 6) hx hb dX0_blockedMask_5 (by decide) ?_
      refine lv_icmp_ge (pc := 7) (tgt := 30) hx hb dX0_blockedMask_7 (by decide) (fun c_1 => ?_) (fun c_1 => ?_)
      · skip
        have c_1 : 6 ≤ i := (nI_leI (a := 6) (b := i) (by omega) (by omega)).mp c_1
        refine lv_iload_n (pc := 30) hx hb dX0_blockedMask_30 rfl (lv_at hl 1 rfl) ?_
        subst hQ
        exact b_retR hx hb hr hlocks (by have e9 : i = 6 := (by omega); rw [hm, e9]) dX0_blockedMask_31
      · skip
        have c_1 : ¬ (6 ≤ i) := fun h9 => c_1 ((nI_leI (a := 6) (b := i) (by omega) (by omega)).mpr h9)
        refine lv_aload_n (pc := 10) hx hb dX0_blockedMask_10 rfl (lv_at hl 2 rfl) ?_
        refine lv_iload_n (pc := 11) hx hb dX0_blockedMask_11 rfl (lv_at hl 0 rfl) ?_
        refine b_cR (pc := 12) (va_runV (As := [.int (nI i)]) (rest := []) ⟨hx, hb, hml, hown, hts⟩ (c_X0_isBlocked l D cI cC cZ cG h r f i (by omega)) (cwV 1 hts gX0_blockedMask_X0_isBlocked rfl rfl rfl hy_X0_isBlocked ⟨Nat.le_of_ble_eq_true rfl, Nat.le_of_ble_eq_true rfl⟩) (b_pRV (wc := [(h, .inr (0, [.ref r])), (r, .inl (cI, 86, .inl f))]) hK hP [0, 1] rfl (ci := 0) (q0 := 0) rfl rfl) rfl rfl hl.1 rfl (lv_room (Nat.le_of_ble_eq_true rfl)) dX0_blockedMask_12 ⟨Nat.zero_le _, Nat.zero_le _⟩) ?_
        refine lv_if_eq (pc := 15) (tgt := 24) hx hb dX0_blockedMask_15 (by decide) (fun c_2 => ?_) (fun c_2 => ?_)
        · skip
          have c_2 : ¬ (h_blk f i) := b_i_0.mp c_2
          refine lv_iinc (pc := 24) (v := nI (i + 1)) (lv' := [(2, .int (nI (i + 1))), (1, .int mk), (0, .ref h)]) hx hb dX0_blockedMask_24 hl (k := 0) rfl (nI_add i 1) (by decide) rfl (fun ls hl => ?_)
          refine lv_goto (pc := 27) (tgt := 4) hx hb dX0_blockedMask_27 (by decide) ?_
          exact ih_4 (i + 1) mk (by omega) (by simp only [h_bm, hm, if_neg c_2]) (by omega) ls (lv_sub hl [0, 1, 2] rfl)
        · skip
          have c_2 : h_blk f i := Classical.not_not.mp (fun h9 => c_2 (b_i_0.mpr h9))
          refine lv_iload_n (pc := 18) hx hb dX0_blockedMask_18 rfl (lv_at hl 1 rfl) ?_
          refine lv_iconst (pc := 19) (v := 1) hx hb dX0_blockedMask_19 (by decide) ?_
          refine lv_iload_n (pc := 20) hx hb dX0_blockedMask_20 rfl (lv_at hl 0 rfl) ?_
          refine lv_ishl (pc := 21) hx hb dX0_blockedMask_21 ?_
          refine lv_ior (pc := 22) hx hb dX0_blockedMask_22 ?_
          refine lv_istore_n (pc := 23) (lv' := [(1, .int (mk ||| (1 <<< ((nI i) &&& 31)))), (2, .int (nI i)), (0, .ref h)]) hx hb dX0_blockedMask_23 rfl hl (by decide) rfl (fun ls hl => ?_)
          refine lv_iinc (pc := 24) (v := nI (i + 1)) (lv' := [(2, .int (nI (i + 1))), (1, .int (mk ||| (1 <<< ((nI i) &&& 31)))), (0, .ref h)]) hx hb dX0_blockedMask_24 hl (k := 1) rfl (nI_add i 1) (by decide) rfl (fun ls hl => ?_)
          refine lv_goto (pc := 27) (tgt := 4) hx hb dX0_blockedMask_27 (by decide) ?_
          exact ih_4 (i + 1) (mk ||| (1 <<< ((nI i) &&& 31))) (by omega) (by simp only [h_bm, hm, if_pos c_2]) (by omega) ls (lv_sub hl [0, 1, 2] rfl)
  exact loop_4 7 0 0 (Nat.zero_le 6) rfl (by omega) ls (lv_sub hl [0, 1, 2] rfl)
set_option maxHeartbeats 4000000 in
set_option maxRecDepth 100000 in
theorem c_X0_underWayMask (l : Launch) (D : va_G) (cI cC cZ cG : ClassId) (h : Nat) (r : Nat) (f : Nat → Int32) : Met l yX0_underWayMask wsX0_underWayMask ({ frames := 2, cells := 0, slots := 0, locals := 41 } : Room) (b_R D (b_T cI cC cZ cG) [(h, .inr (0, [.ref r])), (r, .inl (cI, 86, .inl f))] [.ref h]) (vp_Si (fun r => r = h_um f 6)) 0 0 (fun _ => False) := by
  refine b_enterR (cc := cX0_underWayMask) (maxL := 3) (ret := (some .int)) (by decide) rfl (Nat.le_of_ble_eq_true rfl) ?_
  intro p e s m below meth c ls hx hb hr hml hown hts hlocks hP hK hl Q hQ
  have hown : s.vm.findClass RX0 = some m.cls := hown
  have hl : lv_has ls 3 [(0, .ref h)] := hl
  refine lv_iconst (pc := 0) (v := 0) hx hb dX0_underWayMask_0 (by decide) ?_
  refine lv_istore_n (pc := 1) (lv' := [(1, .int 0), (0, .ref h)]) hx hb dX0_underWayMask_1 rfl hl (by decide) rfl (fun ls hl => ?_)
  refine lv_iconst (pc := 2) (v := 0) hx hb dX0_underWayMask_2 (by decide) ?_
  refine lv_istore_n (pc := 3) (lv' := [(2, .int 0), (1, .int 0), (0, .ref h)]) hx hb dX0_underWayMask_3 rfl hl (by decide) rfl (fun ls hl => ?_)
  have loop_4 : ∀ (n : Nat) (i : Nat) (mk : Int32), (i ≤ 6) → (mk = h_um f i) → 6 - i < n → ∀ (ls : Array Slot), lv_has ls 3 [(2, .int (nI i)), (1, .int mk), (0, .ref h)] → W p l e ({ frames := 2, cells := 0, slots := 0, locals := 41 } : Room) s m ([.ref h] : List Value).toArray below meth c s.heap [] 0 0 Q (F0 m 4 ls []) := by
    intro n
    induction n with
    | zero => intro i mk hi hm hn ls hl; exact absurd hn (Nat.not_lt_zero _)
    | succ n ih_4 =>
      intro i mk hi hm hn ls hl
      refine lv_iload_n (pc := 4) hx hb dX0_underWayMask_4 rfl (lv_at hl 0 rfl) ?_
      refine lv_bipush (pc := 5) (v := 6) hx hb dX0_underWayMask_5 (by decide) ?_
      refine lv_icmp_ge (pc := 7) (tgt := 30) hx hb dX0_underWayMask_7 (by decide) (fun c_1 => ?_) (fun c_1 => ?_)
      · skip
        have c_1 : 6 ≤ i := (nI_leI (a := 6) (b := i) (by omega) (by omega)).mp c_1
        refine lv_iload_n (pc := 30) hx hb dX0_underWayMask_30 rfl (lv_at hl 1 rfl) ?_
        subst hQ
        exact b_retR hx hb hr hlocks (by have e9 : i = 6 := (by omega); rw [hm, e9]) dX0_underWayMask_31
      · skip
        have c_1 : ¬ (6 ≤ i) := fun h9 => c_1 ((nI_leI (a := 6) (b := i) (by omega) (by omega)).mpr h9)
        refine lv_aload_n (pc := 10) hx hb dX0_underWayMask_10 rfl (lv_at hl 2 rfl) ?_
        refine lv_iload_n (pc := 11) hx hb dX0_underWayMask_11 rfl (lv_at hl 0 rfl) ?_
        refine b_cR (pc := 12) (va_runV (As := [.int (nI i)]) (rest := []) ⟨hx, hb, hml, hown, hts⟩ (c_X0_isUnderWay l D cI cC cZ cG h r f i (by omega)) (cwV 1 hts gX0_underWayMask_X0_isUnderWay rfl rfl rfl hy_X0_isUnderWay ⟨Nat.le_of_ble_eq_true rfl, Nat.le_of_ble_eq_true rfl⟩) (b_pRV (wc := [(h, .inr (0, [.ref r])), (r, .inl (cI, 86, .inl f))]) hK hP [0, 1] rfl (ci := 0) (q0 := 0) rfl rfl) rfl rfl hl.1 rfl (lv_room (Nat.le_of_ble_eq_true rfl)) dX0_underWayMask_12 ⟨Nat.zero_le _, Nat.zero_le _⟩) ?_
        refine lv_if_eq (pc := 15) (tgt := 24) hx hb dX0_underWayMask_15 (by decide) (fun c_2 => ?_) (fun c_2 => ?_)
        · skip
          have c_2 : ¬ (¬ f (8 + i * 13 + 0) = 0) := b_i_0.mp c_2
          refine lv_iinc (pc := 24) (v := nI (i + 1)) (lv' := [(2, .int (nI (i + 1))), (1, .int mk), (0, .ref h)]) hx hb dX0_underWayMask_24 hl (k := 0) rfl (nI_add i 1) (by decide) rfl (fun ls hl => ?_)
          refine lv_goto (pc := 27) (tgt := 4) hx hb dX0_underWayMask_27 (by decide) ?_
          exact ih_4 (i + 1) mk (by omega) (by simp only [h_um, hm, if_neg c_2]) (by omega) ls (lv_sub hl [0, 1, 2] rfl)
        · skip
          have c_2 : ¬ f (8 + i * 13 + 0) = 0 := Classical.not_not.mp (fun h9 => c_2 (b_i_0.mpr h9))
          refine lv_iload_n (pc := 18) hx hb dX0_underWayMask_18 rfl (lv_at hl 1 rfl) ?_
          refine lv_iconst (pc := 19) (v := 1) hx hb dX0_underWayMask_19 (by decide) ?_
          refine lv_iload_n (pc := 20) hx hb dX0_underWayMask_20 rfl (lv_at hl 0 rfl) ?_
          refine lv_ishl (pc := 21) hx hb dX0_underWayMask_21 ?_
          refine lv_ior (pc := 22) hx hb dX0_underWayMask_22 ?_
          refine lv_istore_n (pc := 23) (lv' := [(1, .int (mk ||| (1 <<< ((nI i) &&& 31)))), (2, .int (nI i)), (0, .ref h)]) hx hb dX0_underWayMask_23 rfl hl (by decide) rfl (fun ls hl => ?_)
          refine lv_iinc (pc := 24) (v := nI (i + 1)) (lv' := [(2, .int (nI (i + 1))), (1, .int (mk ||| (1 <<< ((nI i) &&& 31)))), (0, .ref h)]) hx hb dX0_underWayMask_24 hl (k := 1) rfl (nI_add i 1) (by decide) rfl (fun ls hl => ?_)
          refine lv_goto (pc := 27) (tgt := 4) hx hb dX0_underWayMask_27 (by decide) ?_
          exact ih_4 (i + 1) (mk ||| (1 <<< ((nI i) &&& 31))) (by omega) (by simp only [h_um, hm, if_pos c_2]) (by omega) ls (lv_sub hl [0, 1, 2] rfl)
  exact loop_4 7 0 0 (Nat.zero_le 6) rfl (by omega) ls (lv_sub hl [0, 1, 2] rfl)
theorem hw_X0_sumOfGates_0 : (.fieldLink RX0 11 "BeamTurnstiles$Hall" "row" "[I" : Cond) ∈ wsX0_sumOfGates := by decide +kernel
theorem hi_X0_sumOfGates_X0 : ∀ w ∈ wsX00, w ∈ wsX0_sumOfGates := by decide +kernel
set_option maxHeartbeats 4000000 in
set_option maxRecDepth 100000 in
theorem c_X0_sumOfGates (l : Launch) (D : va_G) (cI cC cZ cG : ClassId) (h : Nat) (r : Nat) (f : Nat → Int32) (w : Nat) (hw : w < 13) : Met l yX0_sumOfGates wsX0_sumOfGates ({ frames := 1, cells := 0, slots := 0, locals := 20 } : Room) (b_R D (b_T cI cC cZ cG) [(h, .inr (0, [.ref r])), (r, .inl (cI, 86, .inl f))] [.ref h, .int (nI w)]) (vp_Si (fun r => r = h_sum f w 6)) 0 0 (fun _ => False) := by
  refine b_enterR (cc := cX0_sumOfGates) (maxL := 4) (ret := (some .int)) (by decide) rfl (Nat.le_of_ble_eq_true rfl) ?_
  intro p e s m below meth c ls hx hb hr hml hown hts hlocks hP hK hl Q hQ
  have hown : s.vm.findClass RX0 = some m.cls := hown
  have hl : lv_has ls 4 [(0, .ref h), (1, .int (nI w))] := hl
  refine lv_iconst (pc := 0) (v := 0) hx hb dX0_sumOfGates_0 (by decide) ?_
  refine lv_istore_n (pc := 1) (lv' := [(2, .int 0), (0, .ref h), (1, .int (nI w))]) hx hb dX0_sumOfGates_1 rfl hl (by decide) rfl (fun ls hl => ?_)
  refine lv_iconst (pc := 2) (v := 0) hx hb dX0_sumOfGates_2 (by decide) ?_
  refine lv_istore_n (pc := 3) (lv' := [(3, .int 0), (2, .int 0), (0, .ref h), (1, .int (nI w))]) hx hb dX0_sumOfGates_3 rfl hl (by decide) rfl (fun ls hl => ?_)
  have loop_4 : ∀ (n : Nat) (i : Nat) (mk : Int32), (i ≤ 6) → (mk = h_sum f w i) → 6 - i < n → ∀ (ls : Array Slot), lv_has ls 4 [(3, .int (nI i)), (2, .int mk), (0, .ref h), (1, .int (nI w))] → W p l e ({ frames := 1, cells := 0, slots := 0, locals := 20 } : Room) s m ([.ref h, .int (nI w)] : List Value).toArray below meth c s.heap [] 0 0 Q (F0 m 4 ls []) := by
    intro n
    induction n with
    | zero => intro i mk hi hm hn ls hl; exact absurd hn (Nat.not_lt_zero _)
    | succ n ih_4 =>
      intro i mk hi hm hn ls hl
      refine lv_iload_n (pc := 4) hx hb dX0_sumOfGates_4 rfl (lv_at hl 0 rfl) ?_
      refine lv_bipush (pc := 5) (v := 6) hx hb dX0_sumOfGates_5 (by decide) ?_
      refine lv_icmp_ge (pc := 7) (tgt := 30) hx hb dX0_sumOfGates_7 (by decide) (fun c_1 => ?_) (fun c_1 => ?_)
      · skip
        have c_1 : 6 ≤ i := (nI_leI (a := 6) (b := i) (by omega) (by omega)).mp c_1
        refine lv_iload_n (pc := 30) hx hb dX0_sumOfGates_30 rfl (lv_at hl 1 rfl) ?_
        subst hQ
        exact b_retR hx hb hr hlocks (by have e9 : i = 6 := (by omega); rw [hm, e9]) dX0_sumOfGates_31
      · skip
        have c_1 : ¬ (6 ≤ i) := fun h9 => c_1 ((nI_leI (a := 6) (b := i) (by omega) (by omega)).mpr h9)
        refine lv_iload_n (pc := 10) hx hb dX0_sumOfGates_10 rfl (lv_at hl 1 rfl) ?_
        refine lv_aload_n (pc := 11) hx hb dX0_sumOfGates_11 rfl (lv_at hl 2 rfl) ?_
        refine va_get (pc := 12) (D := D) (ci := 0) (v := .ref r) (C := RX0) (T := TX0) (N := 1) hx hb hts hi_X0_sumOfGates_X0 hown hK hP 0 rfl rfl 0 (by decide) (hts _ hw_X0_sumOfGates_0) (fun _ h9 => h9) rfl dX0_sumOfGates_12 ?_
        refine lv_iload_n (pc := 15) hx hb dX0_sumOfGates_15 rfl (lv_at hl 0 rfl) ?_
        refine b_cR (pc := 16) (va_runS (As := [.int (nI i)]) (rest := [.ref r, .int mk]) ⟨hx, hb, hml, hown, hts⟩ (c_X0_partOf l D cI cC cZ cG i) (va_cwS 1 hts gX0_sumOfGates_X0_partOf rfl rfl rfl hyS_X0_partOf ⟨Nat.le_of_ble_eq_true rfl, Nat.le_of_ble_eq_true rfl⟩) (b_pRS (wc := []) hK hP [] rfl) rfl rfl hl.1 rfl (lv_room (Nat.le_of_ble_eq_true rfl)) dX0_sumOfGates_16 ⟨Nat.zero_le _, Nat.zero_le _⟩) ?_
        refine lv_iload_n (pc := 19) hx hb dX0_sumOfGates_19 rfl (lv_at hl 3 rfl) ?_
        refine lv_iadd (pc := 20) hx hb dX0_sumOfGates_20 ?_
        refine b_re (nI_add (8 + i * 13) w) ?_
        refine b_iald (pc := 21) hx hb hK hP 1 0 rfl rfl (8 + i * 13 + w) rfl (by omega) (by decide) dX0_sumOfGates_21 ?_
        refine lv_iadd (pc := 22) hx hb dX0_sumOfGates_22 ?_
        refine lv_istore_n (pc := 23) (lv' := [(2, .int (mk + (f (8 + i * 13 + w)))), (3, .int (nI i)), (0, .ref h), (1, .int (nI w))]) hx hb dX0_sumOfGates_23 rfl hl (by decide) rfl (fun ls hl => ?_)
        refine lv_iinc (pc := 24) (v := nI (i + 1)) (lv' := [(3, .int (nI (i + 1))), (2, .int (mk + (f (8 + i * 13 + w)))), (0, .ref h), (1, .int (nI w))]) hx hb dX0_sumOfGates_24 hl (k := 1) rfl (nI_add i 1) (by decide) rfl (fun ls hl => ?_)
        refine lv_goto (pc := 27) (tgt := 4) hx hb dX0_sumOfGates_27 (by decide) ?_
        exact ih_4 (i + 1) (mk + (f (8 + i * 13 + w))) (by omega) (by simp only [h_sum, hm]) (by omega) ls (lv_sub hl [0, 1, 2, 3] rfl)
  exact loop_4 7 0 0 (Nat.zero_le 6) rfl (by omega) ls (lv_sub hl [0, 1, 2, 3] rfl)
theorem hw_X0_passagesThrough_0 : (.fieldLink RX0 11 "BeamTurnstiles$Hall" "row" "[I" : Cond) ∈ wsX0_passagesThrough := by decide +kernel
theorem hi_X0_passagesThrough_X0 : ∀ w ∈ wsX00, w ∈ wsX0_passagesThrough := by decide +kernel
set_option maxHeartbeats 4000000 in
set_option maxRecDepth 100000 in
theorem c_X0_passagesThrough (l : Launch) (D : va_G) (cI cC cZ cG : ClassId) (h : Nat) (r : Nat) (f : Nat → Int32) (g : Nat) (hg : g < 6) : Met l yX0_passagesThrough wsX0_passagesThrough ({ frames := 1, cells := 0, slots := 0, locals := 20 } : Room) (b_R D (b_T cI cC cZ cG) [(h, .inr (0, [.ref r])), (r, .inl (cI, 86, .inl f))] [.ref h, .int (nI g)]) (vp_Si (fun r => r = f (8 + g * 13 + 5) + f (8 + g * 13 + 6))) 0 0 (fun _ => False) := by
  refine b_enterR (cc := cX0_passagesThrough) (maxL := 3) (ret := (some .int)) (by decide) rfl (Nat.le_of_ble_eq_true rfl) ?_
  intro p e s m below meth c ls hx hb hr hml hown hts hlocks hP hK hl Q hQ
  have hown : s.vm.findClass RX0 = some m.cls := hown
  have hl : lv_has ls 3 [(0, .ref h), (1, .int (nI g))] := hl
  refine lv_iload_n (pc := 0) hx hb dX0_passagesThrough_0 rfl (lv_at hl 1 rfl) ?_
  refine b_cR (pc := 1) (va_runS (As := [.int (nI g)]) (rest := []) ⟨hx, hb, hml, hown, hts⟩ (c_X0_partOf l D cI cC cZ cG g) (va_cwS 1 hts gX0_passagesThrough_X0_partOf rfl rfl rfl hyS_X0_partOf ⟨Nat.le_of_ble_eq_true rfl, Nat.le_of_ble_eq_true rfl⟩) (b_pRS (wc := []) hK hP [] rfl) rfl rfl hl.1 rfl (lv_room (Nat.le_of_ble_eq_true rfl)) dX0_passagesThrough_1 ⟨Nat.zero_le _, Nat.zero_le _⟩) ?_
  refine lv_istore_n (pc := 4) (lv' := [(2, .int (nI (8 + g * 13))), (0, .ref h), (1, .int (nI g))]) hx hb dX0_passagesThrough_4 rfl hl (by decide) rfl (fun ls hl => ?_)
  refine lv_aload_n (pc := 5) hx hb dX0_passagesThrough_5 rfl (lv_at hl 1 rfl) ?_
  refine va_get (pc := 6) (D := D) (ci := 0) (v := .ref r) (C := RX0) (T := TX0) (N := 1) hx hb hts hi_X0_passagesThrough_X0 hown hK hP 0 rfl rfl 0 (by decide) (hts _ hw_X0_passagesThrough_0) (fun _ h9 => h9) rfl dX0_passagesThrough_6 ?_
  refine lv_iload_n (pc := 9) hx hb dX0_passagesThrough_9 rfl (lv_at hl 0 rfl) ?_
  refine lv_iconst (pc := 10) (v := 5) hx hb dX0_passagesThrough_10 (by decide) ?_
  refine lv_iadd (pc := 11) hx hb dX0_passagesThrough_11 ?_
  refine b_re (nI_add (8 + g * 13) 5) ?_
  refine b_iald (pc := 12) hx hb hK hP 1 0 rfl rfl (8 + g * 13 + 5) rfl (by omega) (by decide) dX0_passagesThrough_12 ?_
  refine lv_aload_n (pc := 13) hx hb dX0_passagesThrough_13 rfl (lv_at hl 1 rfl) ?_
  refine va_get (pc := 14) (D := D) (ci := 0) (v := .ref r) (C := RX0) (T := TX0) (N := 1) hx hb hts hi_X0_passagesThrough_X0 hown hK hP 0 rfl rfl 0 (by decide) (hts _ hw_X0_passagesThrough_0) (fun _ h9 => h9) rfl dX0_passagesThrough_14 ?_
  refine lv_iload_n (pc := 17) hx hb dX0_passagesThrough_17 rfl (lv_at hl 0 rfl) ?_
  refine lv_bipush (pc := 18) (v := 6) hx hb dX0_passagesThrough_18 (by decide) ?_
  refine lv_iadd (pc := 20) hx hb dX0_passagesThrough_20 ?_
  refine b_re (nI_add (8 + g * 13) 6) ?_
  refine b_iald (pc := 21) hx hb hK hP 1 0 rfl rfl (8 + g * 13 + 6) rfl (by omega) (by decide) dX0_passagesThrough_21 ?_
  refine lv_iadd (pc := 22) hx hb dX0_passagesThrough_22 ?_
  subst hQ
  exact b_retR hx hb hr hlocks (by first | rfl | (simp only [])) dX0_passagesThrough_23
theorem hw_X0_tell_0_0 : (.fieldLink RX0 11 "BeamTurnstiles$Hall" "row" "[I" : Cond) ∈ wsX0_tell := by decide +kernel
theorem hi_X0_tell_0_X0 : ∀ w ∈ wsX00, w ∈ wsX0_tell := by decide +kernel
set_option maxHeartbeats 4000000 in
set_option maxRecDepth 100000 in
theorem c_X0_tell_0 (l : Launch) (D : va_G) (cI cC cZ cG : ClassId) (h : Nat) (r : Nat) (f : Nat → Int32) (g : Nat) (hg : g < 6) : Met l yX0_tell wsX0_tell ({ frames := 3, cells := 0, slots := 0, locals := 62 } : Room) (b_R D (b_T cI cC cZ cG) [(h, .inr (0, [.ref r])), (r, .inl (cI, 86, .inl f))] [.ref h, .int (nI g), .int (nI 0)]) (vp_Si (fun r => r = h_tell f g 0)) 0 0 (fun _ => False) := by
  refine b_enterR (cc := cX0_tell) (maxL := 3) (ret := (some .int)) (by decide) rfl (Nat.le_of_ble_eq_true rfl) ?_
  intro p e s m below meth c ls hx hb hr hml hown hts hlocks hP hK hl Q hQ
  have hown : s.vm.findClass RX0 = some m.cls := hown
  have hl : lv_has ls 3 [(0, .ref h), (1, .int (nI g)), (2, .int (nI 0))] := hl
  refine lv_iload_n (pc := 0) hx hb dX0_tell_0 rfl (lv_at hl 2 rfl) ?_
  refine lv_tableOut (pc := 1) (tgt := 125) hx hb dX0_tell_1 (by decide) (by decide) ?_
  refine lv_aload_n (pc := 125) hx hb dX0_tell_125 rfl (lv_at hl 0 rfl) ?_
  refine va_get (pc := 126) (D := D) (ci := 0) (v := .ref r) (C := RX0) (T := TX0) (N := 1) hx hb hts hi_X0_tell_0_X0 hown hK hP 0 rfl rfl 0 (by decide) (hts _ hw_X0_tell_0_0) (fun _ h9 => h9) rfl dX0_tell_126 ?_
  refine lv_iload_n (pc := 129) hx hb dX0_tell_129 rfl (lv_at hl 1 rfl) ?_
  refine b_cR (pc := 130) (va_runS (As := [.int (nI g)]) (rest := [.ref r]) ⟨hx, hb, hml, hown, hts⟩ (c_X0_partOf l D cI cC cZ cG g) (va_cwS 1 hts gX0_tell_X0_partOf rfl rfl rfl hyS_X0_partOf ⟨Nat.le_of_ble_eq_true rfl, Nat.le_of_ble_eq_true rfl⟩) (b_pRS (wc := []) hK hP [] rfl) rfl rfl hl.1 rfl (lv_room (Nat.le_of_ble_eq_true rfl)) dX0_tell_130 ⟨Nat.zero_le _, Nat.zero_le _⟩) ?_
  refine lv_iload_n (pc := 133) hx hb dX0_tell_133 rfl (lv_at hl 2 rfl) ?_
  refine lv_iadd (pc := 134) hx hb dX0_tell_134 ?_
  refine b_re (nI_add (8 + g * 13) 0) ?_
  refine b_iald (pc := 135) hx hb hK hP 1 0 rfl rfl (8 + g * 13 + 0) rfl (by omega) (by decide) dX0_tell_135 ?_
  subst hQ
  exact b_retR hx hb hr hlocks (by simp only [h_tell, (eq_false (by decide) : ((0 : Nat) = 1) = False), (eq_false (by decide) : ((0 : Nat) = 2) = False), (eq_false (by decide) : ((0 : Nat) = 3) = False), (eq_false (by decide) : ((0 : Nat) = 4) = False), if_true, if_false]) dX0_tell_136
theorem hw_X0_tell_1_0 : (.fieldLink RX0 11 "BeamTurnstiles$Hall" "row" "[I" : Cond) ∈ wsX0_tell := by decide +kernel
theorem hi_X0_tell_1_X0 : ∀ w ∈ wsX00, w ∈ wsX0_tell := by decide +kernel
set_option maxHeartbeats 4000000 in
set_option maxRecDepth 100000 in
theorem c_X0_tell_1 (l : Launch) (D : va_G) (cI cC cZ cG : ClassId) (h : Nat) (r : Nat) (f : Nat → Int32) (g : Nat) (hg : g < 6) : Met l yX0_tell wsX0_tell ({ frames := 3, cells := 0, slots := 0, locals := 62 } : Room) (b_R D (b_T cI cC cZ cG) [(h, .inr (0, [.ref r])), (r, .inl (cI, 86, .inl f))] [.ref h, .int (nI g), .int (nI 1)]) (vp_Si (fun r => r = h_tell f g 1)) 0 0 (fun _ => False) := by
  refine b_enterR (cc := cX0_tell) (maxL := 3) (ret := (some .int)) (by decide) rfl (Nat.le_of_ble_eq_true rfl) ?_
  intro p e s m below meth c ls hx hb hr hml hown hts hlocks hP hK hl Q hQ
  have hown : s.vm.findClass RX0 = some m.cls := hown
  have hl : lv_has ls 3 [(0, .ref h), (1, .int (nI g)), (2, .int (nI 1))] := hl
  refine lv_iload_n (pc := 0) hx hb dX0_tell_0 rfl (lv_at hl 2 rfl) ?_
  refine lv_tableIn (pc := 1) (tgt := 32) (off := 31) hx hb dX0_tell_1 (by decide) (by decide) (by decide) (by decide) ?_
  refine lv_aload_n (pc := 32) hx hb dX0_tell_32 rfl (lv_at hl 0 rfl) ?_
  refine lv_iload_n (pc := 33) hx hb dX0_tell_33 rfl (lv_at hl 1 rfl) ?_
  refine b_cR (pc := 34) (va_runV (As := [.int (nI g)]) (rest := []) ⟨hx, hb, hml, hown, hts⟩ (c_X0_isUnderWay l D cI cC cZ cG h r f g (by omega)) (cwV 1 hts gX0_tell_X0_isUnderWay rfl rfl rfl hy_X0_isUnderWay ⟨Nat.le_of_ble_eq_true rfl, Nat.le_of_ble_eq_true rfl⟩) (b_pRV (wc := [(h, .inr (0, [.ref r])), (r, .inl (cI, 86, .inl f))]) hK hP [0, 1] rfl (ci := 0) (q0 := 0) rfl rfl) rfl rfl hl.1 rfl (lv_room (Nat.le_of_ble_eq_true rfl)) dX0_tell_34 ⟨Nat.zero_le _, Nat.zero_le _⟩) ?_
  refine lv_if_eq (pc := 37) (tgt := 54) hx hb dX0_tell_37 (by decide) (fun c_1 => ?_) (fun c_1 => ?_)
  · skip
    have c_1 : ¬ (¬ f (8 + g * 13 + 0) = 0) := b_i_0.mp c_1
    refine lv_bipush (pc := 54) (v := (-6)) hx hb dX0_tell_54 (by decide) ?_
    subst hQ
    exact b_retR hx hb hr hlocks (by simp only [h_tell, (eq_true rfl : ((1 : Nat) = 1) = True), if_true, if_false, if_neg c_1]) dX0_tell_56
  · skip
    have c_1 : ¬ f (8 + g * 13 + 0) = 0 := Classical.not_not.mp (fun h9 => c_1 (b_i_0.mpr h9))
    refine lv_aload_n (pc := 40) hx hb dX0_tell_40 rfl (lv_at hl 0 rfl) ?_
    refine va_get (pc := 41) (D := D) (ci := 0) (v := .ref r) (C := RX0) (T := TX0) (N := 1) hx hb hts hi_X0_tell_1_X0 hown hK hP 0 rfl rfl 0 (by decide) (hts _ hw_X0_tell_1_0) (fun _ h9 => h9) rfl dX0_tell_41 ?_
    refine lv_iload_n (pc := 44) hx hb dX0_tell_44 rfl (lv_at hl 1 rfl) ?_
    refine b_cR (pc := 45) (va_runS (As := [.int (nI g)]) (rest := [.ref r]) ⟨hx, hb, hml, hown, hts⟩ (c_X0_partOf l D cI cC cZ cG g) (va_cwS 1 hts gX0_tell_X0_partOf rfl rfl rfl hyS_X0_partOf ⟨Nat.le_of_ble_eq_true rfl, Nat.le_of_ble_eq_true rfl⟩) (b_pRS (wc := []) hK hP [] rfl) rfl rfl hl.1 rfl (lv_room (Nat.le_of_ble_eq_true rfl)) dX0_tell_45 ⟨Nat.zero_le _, Nat.zero_le _⟩) ?_
    refine lv_iconst (pc := 48) (v := 1) hx hb dX0_tell_48 (by decide) ?_
    refine lv_iadd (pc := 49) hx hb dX0_tell_49 ?_
    refine b_re (nI_add (8 + g * 13) 1) ?_
    refine b_iald (pc := 50) hx hb hK hP 1 0 rfl rfl (8 + g * 13 + 1) rfl (by omega) (by decide) dX0_tell_50 ?_
    refine lv_goto (pc := 51) (tgt := 56) hx hb dX0_tell_51 (by decide) ?_
    subst hQ
    exact b_retR hx hb hr hlocks (by simp only [h_tell, (eq_true rfl : ((1 : Nat) = 1) = True), if_true, if_false, if_pos c_1]) dX0_tell_56
set_option maxHeartbeats 4000000 in
set_option maxRecDepth 100000 in
theorem c_X0_tell_2 (l : Launch) (D : va_G) (cI cC cZ cG : ClassId) (h : Nat) (r : Nat) (f : Nat → Int32) (g : Nat) (hg : g < 6) : Met l yX0_tell wsX0_tell ({ frames := 3, cells := 0, slots := 0, locals := 62 } : Room) (b_R D (b_T cI cC cZ cG) [(h, .inr (0, [.ref r])), (r, .inl (cI, 86, .inl f))] [.ref h, .int (nI g), .int (nI 2)]) (vp_Si (fun r => r = h_tell f g 2)) 0 0 (fun _ => False) := by
  refine b_enterR (cc := cX0_tell) (maxL := 3) (ret := (some .int)) (by decide) rfl (Nat.le_of_ble_eq_true rfl) ?_
  intro p e s m below meth c ls hx hb hr hml hown hts hlocks hP hK hl Q hQ
  have hown : s.vm.findClass RX0 = some m.cls := hown
  have hl : lv_has ls 3 [(0, .ref h), (1, .int (nI g)), (2, .int (nI 2))] := hl
  refine lv_iload_n (pc := 0) hx hb dX0_tell_0 rfl (lv_at hl 2 rfl) ?_
  refine lv_tableIn (pc := 1) (tgt := 57) (off := 56) hx hb dX0_tell_1 (by decide) (by decide) (by decide) (by decide) ?_
  refine lv_aload_n (pc := 57) hx hb dX0_tell_57 rfl (lv_at hl 0 rfl) ?_
  refine lv_iload_n (pc := 58) hx hb dX0_tell_58 rfl (lv_at hl 1 rfl) ?_
  refine b_cR (pc := 59) (va_runV (As := [.int (nI g)]) (rest := []) ⟨hx, hb, hml, hown, hts⟩ (c_X0_isUnderWay l D cI cC cZ cG h r f g (by omega)) (cwV 1 hts gX0_tell_X0_isUnderWay rfl rfl rfl hy_X0_isUnderWay ⟨Nat.le_of_ble_eq_true rfl, Nat.le_of_ble_eq_true rfl⟩) (b_pRV (wc := [(h, .inr (0, [.ref r])), (r, .inl (cI, 86, .inl f))]) hK hP [0, 1] rfl (ci := 0) (q0 := 0) rfl rfl) rfl rfl hl.1 rfl (lv_room (Nat.le_of_ble_eq_true rfl)) dX0_tell_59 ⟨Nat.zero_le _, Nat.zero_le _⟩) ?_
  refine lv_if_eq (pc := 62) (tgt := 83) hx hb dX0_tell_62 (by decide) (fun c_1 => ?_) (fun c_1 => ?_)
  · skip
    have c_1 : ¬ (¬ f (8 + g * 13 + 0) = 0) := b_i_0.mp c_1
    refine lv_bipush (pc := 83) (v := (-6)) hx hb dX0_tell_83 (by decide) ?_
    subst hQ
    exact b_retR hx hb hr hlocks (by simp only [h_tell, (eq_false (by decide) : ((2 : Nat) = 1) = False), (eq_true rfl : ((2 : Nat) = 2) = True), if_true, if_false, if_neg c_1]) dX0_tell_85
  · skip
    have c_1 : ¬ f (8 + g * 13 + 0) = 0 := Classical.not_not.mp (fun h9 => c_1 (b_i_0.mpr h9))
    refine lv_aload_n (pc := 65) hx hb dX0_tell_65 rfl (lv_at hl 0 rfl) ?_
    refine lv_iload_n (pc := 66) hx hb dX0_tell_66 rfl (lv_at hl 1 rfl) ?_
    refine b_cR (pc := 67) (va_runV (As := [.int (nI g)]) (rest := []) ⟨hx, hb, hml, hown, hts⟩ (c_X0_isSure l D cI cC cZ cG h r f g (by omega)) (cwV 1 hts gX0_tell_X0_isSure rfl rfl rfl hy_X0_isSure ⟨Nat.le_of_ble_eq_true rfl, Nat.le_of_ble_eq_true rfl⟩) (b_pRV (wc := [(h, .inr (0, [.ref r])), (r, .inl (cI, 86, .inl f))]) hK hP [0, 1] rfl (ci := 0) (q0 := 0) rfl rfl) rfl rfl hl.1 rfl (lv_room (Nat.le_of_ble_eq_true rfl)) dX0_tell_67 ⟨Nat.zero_le _, Nat.zero_le _⟩) ?_
    refine lv_if_eq (pc := 70) (tgt := 83) hx hb dX0_tell_70 (by decide) (fun c_2 => ?_) (fun c_2 => ?_)
    · skip
      have c_2 : ¬ (¬ f (8 + g * 13 + 3) = 0) := b_i_0.mp c_2
      refine lv_bipush (pc := 83) (v := (-6)) hx hb dX0_tell_83 (by decide) ?_
      subst hQ
      exact b_retR hx hb hr hlocks (by simp only [h_tell, (eq_false (by decide) : ((2 : Nat) = 1) = False), (eq_true rfl : ((2 : Nat) = 2) = True), if_true, if_false, if_pos c_1, if_neg c_2]) dX0_tell_85
    · skip
      have c_2 : ¬ f (8 + g * 13 + 3) = 0 := Classical.not_not.mp (fun h9 => c_2 (b_i_0.mpr h9))
      refine lv_aload_n (pc := 73) hx hb dX0_tell_73 rfl (lv_at hl 0 rfl) ?_
      refine lv_iload_n (pc := 74) hx hb dX0_tell_74 rfl (lv_at hl 1 rfl) ?_
      refine b_cR (pc := 75) (va_runV (As := [.int (nI g)]) (rest := []) ⟨hx, hb, hml, hown, hts⟩ (c_X0_placeOf l D cI cC cZ cG h r f g (by omega)) (cwV 1 hts gX0_tell_X0_placeOf rfl rfl rfl hy_X0_placeOf ⟨Nat.le_of_ble_eq_true rfl, Nat.le_of_ble_eq_true rfl⟩) (b_pRV (wc := [(h, .inr (0, [.ref r])), (r, .inl (cI, 86, .inl f))]) hK hP [0, 1] rfl (ci := 0) (q0 := 0) rfl rfl) rfl rfl hl.1 rfl (lv_room (Nat.le_of_ble_eq_true rfl)) dX0_tell_75 ⟨Nat.zero_le _, Nat.zero_le _⟩) ?_
      refine lv_iconst (pc := 78) (v := 4) hx hb dX0_tell_78 (by decide) ?_
      refine lv_iadd (pc := 79) hx hb dX0_tell_79 ?_
      refine lv_goto (pc := 80) (tgt := 85) hx hb dX0_tell_80 (by decide) ?_
      subst hQ
      exact b_retR hx hb hr hlocks (by simp only [h_tell, (eq_false (by decide) : ((2 : Nat) = 1) = False), (eq_true rfl : ((2 : Nat) = 2) = True), if_true, if_false, if_pos c_1, if_pos c_2]) dX0_tell_85
theorem hw_X0_tell_3_0 : (.fieldLink RX0 11 "BeamTurnstiles$Hall" "row" "[I" : Cond) ∈ wsX0_tell := by decide +kernel
theorem hi_X0_tell_3_X0 : ∀ w ∈ wsX00, w ∈ wsX0_tell := by decide +kernel
set_option maxHeartbeats 4000000 in
set_option maxRecDepth 100000 in
theorem c_X0_tell_3 (l : Launch) (D : va_G) (cI cC cZ cG : ClassId) (h : Nat) (r : Nat) (f : Nat → Int32) (g : Nat) (hg : g < 6) : Met l yX0_tell wsX0_tell ({ frames := 3, cells := 0, slots := 0, locals := 62 } : Room) (b_R D (b_T cI cC cZ cG) [(h, .inr (0, [.ref r])), (r, .inl (cI, 86, .inl f))] [.ref h, .int (nI g), .int (nI 3)]) (vp_Si (fun r => r = h_tell f g 3)) 0 0 (fun _ => False) := by
  refine b_enterR (cc := cX0_tell) (maxL := 3) (ret := (some .int)) (by decide) rfl (Nat.le_of_ble_eq_true rfl) ?_
  intro p e s m below meth c ls hx hb hr hml hown hts hlocks hP hK hl Q hQ
  have hown : s.vm.findClass RX0 = some m.cls := hown
  have hl : lv_has ls 3 [(0, .ref h), (1, .int (nI g)), (2, .int (nI 3))] := hl
  refine lv_iload_n (pc := 0) hx hb dX0_tell_0 rfl (lv_at hl 2 rfl) ?_
  refine lv_tableIn (pc := 1) (tgt := 86) (off := 85) hx hb dX0_tell_1 (by decide) (by decide) (by decide) (by decide) ?_
  refine lv_aload_n (pc := 86) hx hb dX0_tell_86 rfl (lv_at hl 0 rfl) ?_
  refine lv_iload_n (pc := 87) hx hb dX0_tell_87 rfl (lv_at hl 1 rfl) ?_
  refine b_cR (pc := 88) (va_runV (As := [.int (nI g)]) (rest := []) ⟨hx, hb, hml, hown, hts⟩ (c_X0_isUnderWay l D cI cC cZ cG h r f g (by omega)) (cwV 1 hts gX0_tell_X0_isUnderWay rfl rfl rfl hy_X0_isUnderWay ⟨Nat.le_of_ble_eq_true rfl, Nat.le_of_ble_eq_true rfl⟩) (b_pRV (wc := [(h, .inr (0, [.ref r])), (r, .inl (cI, 86, .inl f))]) hK hP [0, 1] rfl (ci := 0) (q0 := 0) rfl rfl) rfl rfl hl.1 rfl (lv_room (Nat.le_of_ble_eq_true rfl)) dX0_tell_88 ⟨Nat.zero_le _, Nat.zero_le _⟩) ?_
  refine lv_if_eq (pc := 91) (tgt := 108) hx hb dX0_tell_91 (by decide) (fun c_1 => ?_) (fun c_1 => ?_)
  · skip
    have c_1 : ¬ (¬ f (8 + g * 13 + 0) = 0) := b_i_0.mp c_1
    refine lv_bipush (pc := 108) (v := (-6)) hx hb dX0_tell_108 (by decide) ?_
    subst hQ
    exact b_retR hx hb hr hlocks (by simp only [h_tell, (eq_false (by decide) : ((3 : Nat) = 1) = False), (eq_false (by decide) : ((3 : Nat) = 2) = False), (eq_true rfl : ((3 : Nat) = 3) = True), if_true, if_false, if_neg c_1]) dX0_tell_110
  · skip
    have c_1 : ¬ f (8 + g * 13 + 0) = 0 := Classical.not_not.mp (fun h9 => c_1 (b_i_0.mpr h9))
    refine lv_aload_n (pc := 94) hx hb dX0_tell_94 rfl (lv_at hl 0 rfl) ?_
    refine va_get (pc := 95) (D := D) (ci := 0) (v := .ref r) (C := RX0) (T := TX0) (N := 1) hx hb hts hi_X0_tell_3_X0 hown hK hP 0 rfl rfl 0 (by decide) (hts _ hw_X0_tell_3_0) (fun _ h9 => h9) rfl dX0_tell_95 ?_
    refine lv_iload_n (pc := 98) hx hb dX0_tell_98 rfl (lv_at hl 1 rfl) ?_
    refine b_cR (pc := 99) (va_runS (As := [.int (nI g)]) (rest := [.ref r]) ⟨hx, hb, hml, hown, hts⟩ (c_X0_partOf l D cI cC cZ cG g) (va_cwS 1 hts gX0_tell_X0_partOf rfl rfl rfl hyS_X0_partOf ⟨Nat.le_of_ble_eq_true rfl, Nat.le_of_ble_eq_true rfl⟩) (b_pRS (wc := []) hK hP [] rfl) rfl rfl hl.1 rfl (lv_room (Nat.le_of_ble_eq_true rfl)) dX0_tell_99 ⟨Nat.zero_le _, Nat.zero_le _⟩) ?_
    refine lv_iconst (pc := 102) (v := 3) hx hb dX0_tell_102 (by decide) ?_
    refine lv_iadd (pc := 103) hx hb dX0_tell_103 ?_
    refine b_re (nI_add (8 + g * 13) 3) ?_
    refine b_iald (pc := 104) hx hb hK hP 1 0 rfl rfl (8 + g * 13 + 3) rfl (by omega) (by decide) dX0_tell_104 ?_
    refine lv_goto (pc := 105) (tgt := 110) hx hb dX0_tell_105 (by decide) ?_
    subst hQ
    exact b_retR hx hb hr hlocks (by simp only [h_tell, (eq_false (by decide) : ((3 : Nat) = 1) = False), (eq_false (by decide) : ((3 : Nat) = 2) = False), (eq_true rfl : ((3 : Nat) = 3) = True), if_true, if_false, if_pos c_1]) dX0_tell_110
set_option maxHeartbeats 4000000 in
set_option maxRecDepth 100000 in
theorem c_X0_tell_4 (l : Launch) (D : va_G) (cI cC cZ cG : ClassId) (h : Nat) (r : Nat) (f : Nat → Int32) (g : Nat) (hg : g < 6) : Met l yX0_tell wsX0_tell ({ frames := 3, cells := 0, slots := 0, locals := 62 } : Room) (b_R D (b_T cI cC cZ cG) [(h, .inr (0, [.ref r])), (r, .inl (cI, 86, .inl f))] [.ref h, .int (nI g), .int (nI 4)]) (vp_Si (fun r => r = h_tell f g 4)) 0 0 (fun _ => False) := by
  refine b_enterR (cc := cX0_tell) (maxL := 3) (ret := (some .int)) (by decide) rfl (Nat.le_of_ble_eq_true rfl) ?_
  intro p e s m below meth c ls hx hb hr hml hown hts hlocks hP hK hl Q hQ
  have hown : s.vm.findClass RX0 = some m.cls := hown
  have hl : lv_has ls 3 [(0, .ref h), (1, .int (nI g)), (2, .int (nI 4))] := hl
  refine lv_iload_n (pc := 0) hx hb dX0_tell_0 rfl (lv_at hl 2 rfl) ?_
  refine lv_tableIn (pc := 1) (tgt := 111) (off := 110) hx hb dX0_tell_1 (by decide) (by decide) (by decide) (by decide) ?_
  refine lv_aload_n (pc := 111) hx hb dX0_tell_111 rfl (lv_at hl 0 rfl) ?_
  refine lv_iload_n (pc := 112) hx hb dX0_tell_112 rfl (lv_at hl 1 rfl) ?_
  refine b_cR (pc := 113) (va_runV (As := [.int (nI g)]) (rest := []) ⟨hx, hb, hml, hown, hts⟩ (c_X0_isBlocked l D cI cC cZ cG h r f g (by omega)) (cwV 1 hts gX0_tell_X0_isBlocked rfl rfl rfl hy_X0_isBlocked ⟨Nat.le_of_ble_eq_true rfl, Nat.le_of_ble_eq_true rfl⟩) (b_pRV (wc := [(h, .inr (0, [.ref r])), (r, .inl (cI, 86, .inl f))]) hK hP [0, 1] rfl (ci := 0) (q0 := 0) rfl rfl) rfl rfl hl.1 rfl (lv_room (Nat.le_of_ble_eq_true rfl)) dX0_tell_113 ⟨Nat.zero_le _, Nat.zero_le _⟩) ?_
  refine lv_if_eq (pc := 116) (tgt := 123) hx hb dX0_tell_116 (by decide) (fun c_1 => ?_) (fun c_1 => ?_)
  · skip
    have c_1 : ¬ (h_blk f g) := b_i_0.mp c_1
    refine lv_iconst (pc := 123) (v := 0) hx hb dX0_tell_123 (by decide) ?_
    subst hQ
    exact b_retR hx hb hr hlocks (by simp only [h_tell, (eq_false (by decide) : ((4 : Nat) = 1) = False), (eq_false (by decide) : ((4 : Nat) = 2) = False), (eq_false (by decide) : ((4 : Nat) = 3) = False), (eq_true rfl : ((4 : Nat) = 4) = True), if_true, if_false]; exact (b_i_f c_1).symm) dX0_tell_124
  · skip
    have c_1 : h_blk f g := Classical.not_not.mp (fun h9 => c_1 (b_i_0.mpr h9))
    refine lv_iconst (pc := 119) (v := 1) hx hb dX0_tell_119 (by decide) ?_
    refine lv_goto (pc := 120) (tgt := 124) hx hb dX0_tell_120 (by decide) ?_
    subst hQ
    exact b_retR hx hb hr hlocks (by simp only [h_tell, (eq_false (by decide) : ((4 : Nat) = 1) = False), (eq_false (by decide) : ((4 : Nat) = 2) = False), (eq_false (by decide) : ((4 : Nat) = 3) = False), (eq_true rfl : ((4 : Nat) = 4) = True), if_true, if_false]; exact (b_i_t c_1).symm) dX0_tell_124
theorem hw_X0_tell_5_0 : (.fieldLink RX0 11 "BeamTurnstiles$Hall" "row" "[I" : Cond) ∈ wsX0_tell := by decide +kernel
theorem hi_X0_tell_5_X0 : ∀ w ∈ wsX00, w ∈ wsX0_tell := by decide +kernel
set_option maxHeartbeats 4000000 in
set_option maxRecDepth 100000 in
theorem c_X0_tell_5 (l : Launch) (D : va_G) (cI cC cZ cG : ClassId) (h : Nat) (r : Nat) (f : Nat → Int32) (g : Nat) (hg : g < 6) : Met l yX0_tell wsX0_tell ({ frames := 3, cells := 0, slots := 0, locals := 62 } : Room) (b_R D (b_T cI cC cZ cG) [(h, .inr (0, [.ref r])), (r, .inl (cI, 86, .inl f))] [.ref h, .int (nI g), .int (nI 5)]) (vp_Si (fun r => r = h_tell f g 5)) 0 0 (fun _ => False) := by
  refine b_enterR (cc := cX0_tell) (maxL := 3) (ret := (some .int)) (by decide) rfl (Nat.le_of_ble_eq_true rfl) ?_
  intro p e s m below meth c ls hx hb hr hml hown hts hlocks hP hK hl Q hQ
  have hown : s.vm.findClass RX0 = some m.cls := hown
  have hl : lv_has ls 3 [(0, .ref h), (1, .int (nI g)), (2, .int (nI 5))] := hl
  refine lv_iload_n (pc := 0) hx hb dX0_tell_0 rfl (lv_at hl 2 rfl) ?_
  refine lv_tableOut (pc := 1) (tgt := 125) hx hb dX0_tell_1 (by decide) (by decide) ?_
  refine lv_aload_n (pc := 125) hx hb dX0_tell_125 rfl (lv_at hl 0 rfl) ?_
  refine va_get (pc := 126) (D := D) (ci := 0) (v := .ref r) (C := RX0) (T := TX0) (N := 1) hx hb hts hi_X0_tell_5_X0 hown hK hP 0 rfl rfl 0 (by decide) (hts _ hw_X0_tell_5_0) (fun _ h9 => h9) rfl dX0_tell_126 ?_
  refine lv_iload_n (pc := 129) hx hb dX0_tell_129 rfl (lv_at hl 1 rfl) ?_
  refine b_cR (pc := 130) (va_runS (As := [.int (nI g)]) (rest := [.ref r]) ⟨hx, hb, hml, hown, hts⟩ (c_X0_partOf l D cI cC cZ cG g) (va_cwS 1 hts gX0_tell_X0_partOf rfl rfl rfl hyS_X0_partOf ⟨Nat.le_of_ble_eq_true rfl, Nat.le_of_ble_eq_true rfl⟩) (b_pRS (wc := []) hK hP [] rfl) rfl rfl hl.1 rfl (lv_room (Nat.le_of_ble_eq_true rfl)) dX0_tell_130 ⟨Nat.zero_le _, Nat.zero_le _⟩) ?_
  refine lv_iload_n (pc := 133) hx hb dX0_tell_133 rfl (lv_at hl 2 rfl) ?_
  refine lv_iadd (pc := 134) hx hb dX0_tell_134 ?_
  refine b_re (nI_add (8 + g * 13) 5) ?_
  refine b_iald (pc := 135) hx hb hK hP 1 0 rfl rfl (8 + g * 13 + 5) rfl (by omega) (by decide) dX0_tell_135 ?_
  subst hQ
  exact b_retR hx hb hr hlocks (by simp only [h_tell, (eq_false (by decide) : ((5 : Nat) = 1) = False), (eq_false (by decide) : ((5 : Nat) = 2) = False), (eq_false (by decide) : ((5 : Nat) = 3) = False), (eq_false (by decide) : ((5 : Nat) = 4) = False), if_true, if_false]) dX0_tell_136
theorem hw_X0_tell_6_0 : (.fieldLink RX0 11 "BeamTurnstiles$Hall" "row" "[I" : Cond) ∈ wsX0_tell := by decide +kernel
theorem hi_X0_tell_6_X0 : ∀ w ∈ wsX00, w ∈ wsX0_tell := by decide +kernel
set_option maxHeartbeats 4000000 in
set_option maxRecDepth 100000 in
theorem c_X0_tell_6 (l : Launch) (D : va_G) (cI cC cZ cG : ClassId) (h : Nat) (r : Nat) (f : Nat → Int32) (g : Nat) (hg : g < 6) : Met l yX0_tell wsX0_tell ({ frames := 3, cells := 0, slots := 0, locals := 62 } : Room) (b_R D (b_T cI cC cZ cG) [(h, .inr (0, [.ref r])), (r, .inl (cI, 86, .inl f))] [.ref h, .int (nI g), .int (nI 6)]) (vp_Si (fun r => r = h_tell f g 6)) 0 0 (fun _ => False) := by
  refine b_enterR (cc := cX0_tell) (maxL := 3) (ret := (some .int)) (by decide) rfl (Nat.le_of_ble_eq_true rfl) ?_
  intro p e s m below meth c ls hx hb hr hml hown hts hlocks hP hK hl Q hQ
  have hown : s.vm.findClass RX0 = some m.cls := hown
  have hl : lv_has ls 3 [(0, .ref h), (1, .int (nI g)), (2, .int (nI 6))] := hl
  refine lv_iload_n (pc := 0) hx hb dX0_tell_0 rfl (lv_at hl 2 rfl) ?_
  refine lv_tableOut (pc := 1) (tgt := 125) hx hb dX0_tell_1 (by decide) (by decide) ?_
  refine lv_aload_n (pc := 125) hx hb dX0_tell_125 rfl (lv_at hl 0 rfl) ?_
  refine va_get (pc := 126) (D := D) (ci := 0) (v := .ref r) (C := RX0) (T := TX0) (N := 1) hx hb hts hi_X0_tell_6_X0 hown hK hP 0 rfl rfl 0 (by decide) (hts _ hw_X0_tell_6_0) (fun _ h9 => h9) rfl dX0_tell_126 ?_
  refine lv_iload_n (pc := 129) hx hb dX0_tell_129 rfl (lv_at hl 1 rfl) ?_
  refine b_cR (pc := 130) (va_runS (As := [.int (nI g)]) (rest := [.ref r]) ⟨hx, hb, hml, hown, hts⟩ (c_X0_partOf l D cI cC cZ cG g) (va_cwS 1 hts gX0_tell_X0_partOf rfl rfl rfl hyS_X0_partOf ⟨Nat.le_of_ble_eq_true rfl, Nat.le_of_ble_eq_true rfl⟩) (b_pRS (wc := []) hK hP [] rfl) rfl rfl hl.1 rfl (lv_room (Nat.le_of_ble_eq_true rfl)) dX0_tell_130 ⟨Nat.zero_le _, Nat.zero_le _⟩) ?_
  refine lv_iload_n (pc := 133) hx hb dX0_tell_133 rfl (lv_at hl 2 rfl) ?_
  refine lv_iadd (pc := 134) hx hb dX0_tell_134 ?_
  refine b_re (nI_add (8 + g * 13) 6) ?_
  refine b_iald (pc := 135) hx hb hK hP 1 0 rfl rfl (8 + g * 13 + 6) rfl (by omega) (by decide) dX0_tell_135 ?_
  subst hQ
  exact b_retR hx hb hr hlocks (by simp only [h_tell, (eq_false (by decide) : ((6 : Nat) = 1) = False), (eq_false (by decide) : ((6 : Nat) = 2) = False), (eq_false (by decide) : ((6 : Nat) = 3) = False), (eq_false (by decide) : ((6 : Nat) = 4) = False), if_true, if_false]) dX0_tell_136
theorem hw_X0_tell_7_0 : (.fieldLink RX0 11 "BeamTurnstiles$Hall" "row" "[I" : Cond) ∈ wsX0_tell := by decide +kernel
theorem hi_X0_tell_7_X0 : ∀ w ∈ wsX00, w ∈ wsX0_tell := by decide +kernel
set_option maxHeartbeats 4000000 in
set_option maxRecDepth 100000 in
theorem c_X0_tell_7 (l : Launch) (D : va_G) (cI cC cZ cG : ClassId) (h : Nat) (r : Nat) (f : Nat → Int32) (g : Nat) (hg : g < 6) : Met l yX0_tell wsX0_tell ({ frames := 3, cells := 0, slots := 0, locals := 62 } : Room) (b_R D (b_T cI cC cZ cG) [(h, .inr (0, [.ref r])), (r, .inl (cI, 86, .inl f))] [.ref h, .int (nI g), .int (nI 7)]) (vp_Si (fun r => r = h_tell f g 7)) 0 0 (fun _ => False) := by
  refine b_enterR (cc := cX0_tell) (maxL := 3) (ret := (some .int)) (by decide) rfl (Nat.le_of_ble_eq_true rfl) ?_
  intro p e s m below meth c ls hx hb hr hml hown hts hlocks hP hK hl Q hQ
  have hown : s.vm.findClass RX0 = some m.cls := hown
  have hl : lv_has ls 3 [(0, .ref h), (1, .int (nI g)), (2, .int (nI 7))] := hl
  refine lv_iload_n (pc := 0) hx hb dX0_tell_0 rfl (lv_at hl 2 rfl) ?_
  refine lv_tableOut (pc := 1) (tgt := 125) hx hb dX0_tell_1 (by decide) (by decide) ?_
  refine lv_aload_n (pc := 125) hx hb dX0_tell_125 rfl (lv_at hl 0 rfl) ?_
  refine va_get (pc := 126) (D := D) (ci := 0) (v := .ref r) (C := RX0) (T := TX0) (N := 1) hx hb hts hi_X0_tell_7_X0 hown hK hP 0 rfl rfl 0 (by decide) (hts _ hw_X0_tell_7_0) (fun _ h9 => h9) rfl dX0_tell_126 ?_
  refine lv_iload_n (pc := 129) hx hb dX0_tell_129 rfl (lv_at hl 1 rfl) ?_
  refine b_cR (pc := 130) (va_runS (As := [.int (nI g)]) (rest := [.ref r]) ⟨hx, hb, hml, hown, hts⟩ (c_X0_partOf l D cI cC cZ cG g) (va_cwS 1 hts gX0_tell_X0_partOf rfl rfl rfl hyS_X0_partOf ⟨Nat.le_of_ble_eq_true rfl, Nat.le_of_ble_eq_true rfl⟩) (b_pRS (wc := []) hK hP [] rfl) rfl rfl hl.1 rfl (lv_room (Nat.le_of_ble_eq_true rfl)) dX0_tell_130 ⟨Nat.zero_le _, Nat.zero_le _⟩) ?_
  refine lv_iload_n (pc := 133) hx hb dX0_tell_133 rfl (lv_at hl 2 rfl) ?_
  refine lv_iadd (pc := 134) hx hb dX0_tell_134 ?_
  refine b_re (nI_add (8 + g * 13) 7) ?_
  refine b_iald (pc := 135) hx hb hK hP 1 0 rfl rfl (8 + g * 13 + 7) rfl (by omega) (by decide) dX0_tell_135 ?_
  subst hQ
  exact b_retR hx hb hr hlocks (by simp only [h_tell, (eq_false (by decide) : ((7 : Nat) = 1) = False), (eq_false (by decide) : ((7 : Nat) = 2) = False), (eq_false (by decide) : ((7 : Nat) = 3) = False), (eq_false (by decide) : ((7 : Nat) = 4) = False), if_true, if_false]) dX0_tell_136
theorem hw_X0_tell_8_0 : (.fieldLink RX0 11 "BeamTurnstiles$Hall" "row" "[I" : Cond) ∈ wsX0_tell := by decide +kernel
theorem hi_X0_tell_8_X0 : ∀ w ∈ wsX00, w ∈ wsX0_tell := by decide +kernel
set_option maxHeartbeats 4000000 in
set_option maxRecDepth 100000 in
theorem c_X0_tell_8 (l : Launch) (D : va_G) (cI cC cZ cG : ClassId) (h : Nat) (r : Nat) (f : Nat → Int32) (g : Nat) (hg : g < 6) : Met l yX0_tell wsX0_tell ({ frames := 3, cells := 0, slots := 0, locals := 62 } : Room) (b_R D (b_T cI cC cZ cG) [(h, .inr (0, [.ref r])), (r, .inl (cI, 86, .inl f))] [.ref h, .int (nI g), .int (nI 8)]) (vp_Si (fun r => r = h_tell f g 8)) 0 0 (fun _ => False) := by
  refine b_enterR (cc := cX0_tell) (maxL := 3) (ret := (some .int)) (by decide) rfl (Nat.le_of_ble_eq_true rfl) ?_
  intro p e s m below meth c ls hx hb hr hml hown hts hlocks hP hK hl Q hQ
  have hown : s.vm.findClass RX0 = some m.cls := hown
  have hl : lv_has ls 3 [(0, .ref h), (1, .int (nI g)), (2, .int (nI 8))] := hl
  refine lv_iload_n (pc := 0) hx hb dX0_tell_0 rfl (lv_at hl 2 rfl) ?_
  refine lv_tableOut (pc := 1) (tgt := 125) hx hb dX0_tell_1 (by decide) (by decide) ?_
  refine lv_aload_n (pc := 125) hx hb dX0_tell_125 rfl (lv_at hl 0 rfl) ?_
  refine va_get (pc := 126) (D := D) (ci := 0) (v := .ref r) (C := RX0) (T := TX0) (N := 1) hx hb hts hi_X0_tell_8_X0 hown hK hP 0 rfl rfl 0 (by decide) (hts _ hw_X0_tell_8_0) (fun _ h9 => h9) rfl dX0_tell_126 ?_
  refine lv_iload_n (pc := 129) hx hb dX0_tell_129 rfl (lv_at hl 1 rfl) ?_
  refine b_cR (pc := 130) (va_runS (As := [.int (nI g)]) (rest := [.ref r]) ⟨hx, hb, hml, hown, hts⟩ (c_X0_partOf l D cI cC cZ cG g) (va_cwS 1 hts gX0_tell_X0_partOf rfl rfl rfl hyS_X0_partOf ⟨Nat.le_of_ble_eq_true rfl, Nat.le_of_ble_eq_true rfl⟩) (b_pRS (wc := []) hK hP [] rfl) rfl rfl hl.1 rfl (lv_room (Nat.le_of_ble_eq_true rfl)) dX0_tell_130 ⟨Nat.zero_le _, Nat.zero_le _⟩) ?_
  refine lv_iload_n (pc := 133) hx hb dX0_tell_133 rfl (lv_at hl 2 rfl) ?_
  refine lv_iadd (pc := 134) hx hb dX0_tell_134 ?_
  refine b_re (nI_add (8 + g * 13) 8) ?_
  refine b_iald (pc := 135) hx hb hK hP 1 0 rfl rfl (8 + g * 13 + 8) rfl (by omega) (by decide) dX0_tell_135 ?_
  subst hQ
  exact b_retR hx hb hr hlocks (by simp only [h_tell, (eq_false (by decide) : ((8 : Nat) = 1) = False), (eq_false (by decide) : ((8 : Nat) = 2) = False), (eq_false (by decide) : ((8 : Nat) = 3) = False), (eq_false (by decide) : ((8 : Nat) = 4) = False), if_true, if_false]) dX0_tell_136
theorem hw_X0_tell_9_0 : (.fieldLink RX0 11 "BeamTurnstiles$Hall" "row" "[I" : Cond) ∈ wsX0_tell := by decide +kernel
theorem hi_X0_tell_9_X0 : ∀ w ∈ wsX00, w ∈ wsX0_tell := by decide +kernel
set_option maxHeartbeats 4000000 in
set_option maxRecDepth 100000 in
theorem c_X0_tell_9 (l : Launch) (D : va_G) (cI cC cZ cG : ClassId) (h : Nat) (r : Nat) (f : Nat → Int32) (g : Nat) (hg : g < 6) : Met l yX0_tell wsX0_tell ({ frames := 3, cells := 0, slots := 0, locals := 62 } : Room) (b_R D (b_T cI cC cZ cG) [(h, .inr (0, [.ref r])), (r, .inl (cI, 86, .inl f))] [.ref h, .int (nI g), .int (nI 9)]) (vp_Si (fun r => r = h_tell f g 9)) 0 0 (fun _ => False) := by
  refine b_enterR (cc := cX0_tell) (maxL := 3) (ret := (some .int)) (by decide) rfl (Nat.le_of_ble_eq_true rfl) ?_
  intro p e s m below meth c ls hx hb hr hml hown hts hlocks hP hK hl Q hQ
  have hown : s.vm.findClass RX0 = some m.cls := hown
  have hl : lv_has ls 3 [(0, .ref h), (1, .int (nI g)), (2, .int (nI 9))] := hl
  refine lv_iload_n (pc := 0) hx hb dX0_tell_0 rfl (lv_at hl 2 rfl) ?_
  refine lv_tableOut (pc := 1) (tgt := 125) hx hb dX0_tell_1 (by decide) (by decide) ?_
  refine lv_aload_n (pc := 125) hx hb dX0_tell_125 rfl (lv_at hl 0 rfl) ?_
  refine va_get (pc := 126) (D := D) (ci := 0) (v := .ref r) (C := RX0) (T := TX0) (N := 1) hx hb hts hi_X0_tell_9_X0 hown hK hP 0 rfl rfl 0 (by decide) (hts _ hw_X0_tell_9_0) (fun _ h9 => h9) rfl dX0_tell_126 ?_
  refine lv_iload_n (pc := 129) hx hb dX0_tell_129 rfl (lv_at hl 1 rfl) ?_
  refine b_cR (pc := 130) (va_runS (As := [.int (nI g)]) (rest := [.ref r]) ⟨hx, hb, hml, hown, hts⟩ (c_X0_partOf l D cI cC cZ cG g) (va_cwS 1 hts gX0_tell_X0_partOf rfl rfl rfl hyS_X0_partOf ⟨Nat.le_of_ble_eq_true rfl, Nat.le_of_ble_eq_true rfl⟩) (b_pRS (wc := []) hK hP [] rfl) rfl rfl hl.1 rfl (lv_room (Nat.le_of_ble_eq_true rfl)) dX0_tell_130 ⟨Nat.zero_le _, Nat.zero_le _⟩) ?_
  refine lv_iload_n (pc := 133) hx hb dX0_tell_133 rfl (lv_at hl 2 rfl) ?_
  refine lv_iadd (pc := 134) hx hb dX0_tell_134 ?_
  refine b_re (nI_add (8 + g * 13) 9) ?_
  refine b_iald (pc := 135) hx hb hK hP 1 0 rfl rfl (8 + g * 13 + 9) rfl (by omega) (by decide) dX0_tell_135 ?_
  subst hQ
  exact b_retR hx hb hr hlocks (by simp only [h_tell, (eq_false (by decide) : ((9 : Nat) = 1) = False), (eq_false (by decide) : ((9 : Nat) = 2) = False), (eq_false (by decide) : ((9 : Nat) = 3) = False), (eq_false (by decide) : ((9 : Nat) = 4) = False), if_true, if_false]) dX0_tell_136
theorem hw_X0_tell_10_0 : (.fieldLink RX0 11 "BeamTurnstiles$Hall" "row" "[I" : Cond) ∈ wsX0_tell := by decide +kernel
theorem hi_X0_tell_10_X0 : ∀ w ∈ wsX00, w ∈ wsX0_tell := by decide +kernel
set_option maxHeartbeats 4000000 in
set_option maxRecDepth 100000 in
theorem c_X0_tell_10 (l : Launch) (D : va_G) (cI cC cZ cG : ClassId) (h : Nat) (r : Nat) (f : Nat → Int32) (g : Nat) (hg : g < 6) : Met l yX0_tell wsX0_tell ({ frames := 3, cells := 0, slots := 0, locals := 62 } : Room) (b_R D (b_T cI cC cZ cG) [(h, .inr (0, [.ref r])), (r, .inl (cI, 86, .inl f))] [.ref h, .int (nI g), .int (nI 10)]) (vp_Si (fun r => r = h_tell f g 10)) 0 0 (fun _ => False) := by
  refine b_enterR (cc := cX0_tell) (maxL := 3) (ret := (some .int)) (by decide) rfl (Nat.le_of_ble_eq_true rfl) ?_
  intro p e s m below meth c ls hx hb hr hml hown hts hlocks hP hK hl Q hQ
  have hown : s.vm.findClass RX0 = some m.cls := hown
  have hl : lv_has ls 3 [(0, .ref h), (1, .int (nI g)), (2, .int (nI 10))] := hl
  refine lv_iload_n (pc := 0) hx hb dX0_tell_0 rfl (lv_at hl 2 rfl) ?_
  refine lv_tableOut (pc := 1) (tgt := 125) hx hb dX0_tell_1 (by decide) (by decide) ?_
  refine lv_aload_n (pc := 125) hx hb dX0_tell_125 rfl (lv_at hl 0 rfl) ?_
  refine va_get (pc := 126) (D := D) (ci := 0) (v := .ref r) (C := RX0) (T := TX0) (N := 1) hx hb hts hi_X0_tell_10_X0 hown hK hP 0 rfl rfl 0 (by decide) (hts _ hw_X0_tell_10_0) (fun _ h9 => h9) rfl dX0_tell_126 ?_
  refine lv_iload_n (pc := 129) hx hb dX0_tell_129 rfl (lv_at hl 1 rfl) ?_
  refine b_cR (pc := 130) (va_runS (As := [.int (nI g)]) (rest := [.ref r]) ⟨hx, hb, hml, hown, hts⟩ (c_X0_partOf l D cI cC cZ cG g) (va_cwS 1 hts gX0_tell_X0_partOf rfl rfl rfl hyS_X0_partOf ⟨Nat.le_of_ble_eq_true rfl, Nat.le_of_ble_eq_true rfl⟩) (b_pRS (wc := []) hK hP [] rfl) rfl rfl hl.1 rfl (lv_room (Nat.le_of_ble_eq_true rfl)) dX0_tell_130 ⟨Nat.zero_le _, Nat.zero_le _⟩) ?_
  refine lv_iload_n (pc := 133) hx hb dX0_tell_133 rfl (lv_at hl 2 rfl) ?_
  refine lv_iadd (pc := 134) hx hb dX0_tell_134 ?_
  refine b_re (nI_add (8 + g * 13) 10) ?_
  refine b_iald (pc := 135) hx hb hK hP 1 0 rfl rfl (8 + g * 13 + 10) rfl (by omega) (by decide) dX0_tell_135 ?_
  subst hQ
  exact b_retR hx hb hr hlocks (by simp only [h_tell, (eq_false (by decide) : ((10 : Nat) = 1) = False), (eq_false (by decide) : ((10 : Nat) = 2) = False), (eq_false (by decide) : ((10 : Nat) = 3) = False), (eq_false (by decide) : ((10 : Nat) = 4) = False), if_true, if_false]) dX0_tell_136
theorem hw_X0_tell_11_0 : (.fieldLink RX0 11 "BeamTurnstiles$Hall" "row" "[I" : Cond) ∈ wsX0_tell := by decide +kernel
theorem hi_X0_tell_11_X0 : ∀ w ∈ wsX00, w ∈ wsX0_tell := by decide +kernel
set_option maxHeartbeats 4000000 in
set_option maxRecDepth 100000 in
theorem c_X0_tell_11 (l : Launch) (D : va_G) (cI cC cZ cG : ClassId) (h : Nat) (r : Nat) (f : Nat → Int32) (g : Nat) (hg : g < 6) : Met l yX0_tell wsX0_tell ({ frames := 3, cells := 0, slots := 0, locals := 62 } : Room) (b_R D (b_T cI cC cZ cG) [(h, .inr (0, [.ref r])), (r, .inl (cI, 86, .inl f))] [.ref h, .int (nI g), .int (nI 11)]) (vp_Si (fun r => r = h_tell f g 11)) 0 0 (fun _ => False) := by
  refine b_enterR (cc := cX0_tell) (maxL := 3) (ret := (some .int)) (by decide) rfl (Nat.le_of_ble_eq_true rfl) ?_
  intro p e s m below meth c ls hx hb hr hml hown hts hlocks hP hK hl Q hQ
  have hown : s.vm.findClass RX0 = some m.cls := hown
  have hl : lv_has ls 3 [(0, .ref h), (1, .int (nI g)), (2, .int (nI 11))] := hl
  refine lv_iload_n (pc := 0) hx hb dX0_tell_0 rfl (lv_at hl 2 rfl) ?_
  refine lv_tableOut (pc := 1) (tgt := 125) hx hb dX0_tell_1 (by decide) (by decide) ?_
  refine lv_aload_n (pc := 125) hx hb dX0_tell_125 rfl (lv_at hl 0 rfl) ?_
  refine va_get (pc := 126) (D := D) (ci := 0) (v := .ref r) (C := RX0) (T := TX0) (N := 1) hx hb hts hi_X0_tell_11_X0 hown hK hP 0 rfl rfl 0 (by decide) (hts _ hw_X0_tell_11_0) (fun _ h9 => h9) rfl dX0_tell_126 ?_
  refine lv_iload_n (pc := 129) hx hb dX0_tell_129 rfl (lv_at hl 1 rfl) ?_
  refine b_cR (pc := 130) (va_runS (As := [.int (nI g)]) (rest := [.ref r]) ⟨hx, hb, hml, hown, hts⟩ (c_X0_partOf l D cI cC cZ cG g) (va_cwS 1 hts gX0_tell_X0_partOf rfl rfl rfl hyS_X0_partOf ⟨Nat.le_of_ble_eq_true rfl, Nat.le_of_ble_eq_true rfl⟩) (b_pRS (wc := []) hK hP [] rfl) rfl rfl hl.1 rfl (lv_room (Nat.le_of_ble_eq_true rfl)) dX0_tell_130 ⟨Nat.zero_le _, Nat.zero_le _⟩) ?_
  refine lv_iload_n (pc := 133) hx hb dX0_tell_133 rfl (lv_at hl 2 rfl) ?_
  refine lv_iadd (pc := 134) hx hb dX0_tell_134 ?_
  refine b_re (nI_add (8 + g * 13) 11) ?_
  refine b_iald (pc := 135) hx hb hK hP 1 0 rfl rfl (8 + g * 13 + 11) rfl (by omega) (by decide) dX0_tell_135 ?_
  subst hQ
  exact b_retR hx hb hr hlocks (by simp only [h_tell, (eq_false (by decide) : ((11 : Nat) = 1) = False), (eq_false (by decide) : ((11 : Nat) = 2) = False), (eq_false (by decide) : ((11 : Nat) = 3) = False), (eq_false (by decide) : ((11 : Nat) = 4) = False), if_true, if_false]) dX0_tell_136
theorem hw_X0_tell_12_0 : (.fieldLink RX0 11 "BeamTurnstiles$Hall" "row" "[I" : Cond) ∈ wsX0_tell := by decide +kernel
theorem hi_X0_tell_12_X0 : ∀ w ∈ wsX00, w ∈ wsX0_tell := by decide +kernel
set_option maxHeartbeats 4000000 in
set_option maxRecDepth 100000 in
theorem c_X0_tell_12 (l : Launch) (D : va_G) (cI cC cZ cG : ClassId) (h : Nat) (r : Nat) (f : Nat → Int32) (g : Nat) (hg : g < 6) : Met l yX0_tell wsX0_tell ({ frames := 3, cells := 0, slots := 0, locals := 62 } : Room) (b_R D (b_T cI cC cZ cG) [(h, .inr (0, [.ref r])), (r, .inl (cI, 86, .inl f))] [.ref h, .int (nI g), .int (nI 12)]) (vp_Si (fun r => r = h_tell f g 12)) 0 0 (fun _ => False) := by
  refine b_enterR (cc := cX0_tell) (maxL := 3) (ret := (some .int)) (by decide) rfl (Nat.le_of_ble_eq_true rfl) ?_
  intro p e s m below meth c ls hx hb hr hml hown hts hlocks hP hK hl Q hQ
  have hown : s.vm.findClass RX0 = some m.cls := hown
  have hl : lv_has ls 3 [(0, .ref h), (1, .int (nI g)), (2, .int (nI 12))] := hl
  refine lv_iload_n (pc := 0) hx hb dX0_tell_0 rfl (lv_at hl 2 rfl) ?_
  refine lv_tableOut (pc := 1) (tgt := 125) hx hb dX0_tell_1 (by decide) (by decide) ?_
  refine lv_aload_n (pc := 125) hx hb dX0_tell_125 rfl (lv_at hl 0 rfl) ?_
  refine va_get (pc := 126) (D := D) (ci := 0) (v := .ref r) (C := RX0) (T := TX0) (N := 1) hx hb hts hi_X0_tell_12_X0 hown hK hP 0 rfl rfl 0 (by decide) (hts _ hw_X0_tell_12_0) (fun _ h9 => h9) rfl dX0_tell_126 ?_
  refine lv_iload_n (pc := 129) hx hb dX0_tell_129 rfl (lv_at hl 1 rfl) ?_
  refine b_cR (pc := 130) (va_runS (As := [.int (nI g)]) (rest := [.ref r]) ⟨hx, hb, hml, hown, hts⟩ (c_X0_partOf l D cI cC cZ cG g) (va_cwS 1 hts gX0_tell_X0_partOf rfl rfl rfl hyS_X0_partOf ⟨Nat.le_of_ble_eq_true rfl, Nat.le_of_ble_eq_true rfl⟩) (b_pRS (wc := []) hK hP [] rfl) rfl rfl hl.1 rfl (lv_room (Nat.le_of_ble_eq_true rfl)) dX0_tell_130 ⟨Nat.zero_le _, Nat.zero_le _⟩) ?_
  refine lv_iload_n (pc := 133) hx hb dX0_tell_133 rfl (lv_at hl 2 rfl) ?_
  refine lv_iadd (pc := 134) hx hb dX0_tell_134 ?_
  refine b_re (nI_add (8 + g * 13) 12) ?_
  refine b_iald (pc := 135) hx hb hK hP 1 0 rfl rfl (8 + g * 13 + 12) rfl (by omega) (by decide) dX0_tell_135 ?_
  subst hQ
  exact b_retR hx hb hr hlocks (by simp only [h_tell, (eq_false (by decide) : ((12 : Nat) = 1) = False), (eq_false (by decide) : ((12 : Nat) = 2) = False), (eq_false (by decide) : ((12 : Nat) = 3) = False), (eq_false (by decide) : ((12 : Nat) = 4) = False), if_true, if_false]) dX0_tell_136
set_option maxHeartbeats 4000000 in
set_option maxRecDepth 100000 in
theorem c_X0_tell (l : Launch) (D : va_G) (cI cC cZ cG : ClassId) (h : Nat) (r : Nat) (f : Nat → Int32) (g : Nat) (w : Nat) (hg : g < 6) (hw : w < 13) : Met l yX0_tell wsX0_tell ({ frames := 3, cells := 0, slots := 0, locals := 62 } : Room) (b_R D (b_T cI cC cZ cG) [(h, .inr (0, [.ref r])), (r, .inl (cI, 86, .inl f))] [.ref h, .int (nI g), .int (nI w)]) (vp_Si (fun r => r = h_tell f g w)) 0 0 (fun _ => False) := by
  match w, hw with
  | 0, _ => exact c_X0_tell_0 l D cI cC cZ cG h r f g hg
  | 1, _ => exact c_X0_tell_1 l D cI cC cZ cG h r f g hg
  | 2, _ => exact c_X0_tell_2 l D cI cC cZ cG h r f g hg
  | 3, _ => exact c_X0_tell_3 l D cI cC cZ cG h r f g hg
  | 4, _ => exact c_X0_tell_4 l D cI cC cZ cG h r f g hg
  | 5, _ => exact c_X0_tell_5 l D cI cC cZ cG h r f g hg
  | 6, _ => exact c_X0_tell_6 l D cI cC cZ cG h r f g hg
  | 7, _ => exact c_X0_tell_7 l D cI cC cZ cG h r f g hg
  | 8, _ => exact c_X0_tell_8 l D cI cC cZ cG h r f g hg
  | 9, _ => exact c_X0_tell_9 l D cI cC cZ cG h r f g hg
  | 10, _ => exact c_X0_tell_10 l D cI cC cZ cG h r f g hg
  | 11, _ => exact c_X0_tell_11 l D cI cC cZ cG h r f g hg
  | 12, _ => exact c_X0_tell_12 l D cI cC cZ cG h r f g hg
  | k + 13, h9 => exact absurd h9 (by omega)
theorem hw_X0_change_0 : (.fieldLink RX0 11 "BeamTurnstiles$Hall" "row" "[I" : Cond) ∈ wsX0_change := by decide +kernel
theorem hi_X0_change_X0 : ∀ w ∈ wsX00, w ∈ wsX0_change := by decide +kernel
theorem hw_X0_change_2 : (.fieldLink RX0 19 "BeamTurnstiles$Hall" "TURNED_BITS" "[I" : Cond) ∈ wsX0_change := by decide +kernel
set_option maxHeartbeats 4000000 in
set_option maxRecDepth 100000 in
/-- Hall.change -/
theorem c_X0_change (l : Launch) (D : va_G) (cI cC cZ cG : ClassId) (tb lo hi : Nat) (sz : Nat) (h : Nat) (r : Nat) (f : Nat → Int32) (g : Nat) (bm : Nat) (hg : g < 6) (hbm : bm < 3) : Met l yX0_change wsX0_change ({ frames := 3, cells := 0, slots := 0, locals := 62 } : Room) (b_W D (b_T cI cC cZ cG) (b_X tb lo hi) [(h, .inr (0, [.ref r])), (r, .inl (cI, 86, .inl f))] sz [.ref h, .int (nI g), .int (nI bm)]) (b_Qi D (f (8 + g * 13 + 0) ^^^ b_tb bm) [(h, .inr (0, [.ref r])), (r, .inl (cI, 86, .inl (h_change f g bm)))] (va_A [(h, .inr (0, [.ref r])), (r, .inl (cI, 86, .inl f))] sz)) 0 0 (va_A [(h, .inr (0, [.ref r])), (r, .inl (cI, 86, .inl f))] sz) := by
  refine b_enterW (Qc := fun A => b_Qi D (f (8 + g * 13 + 0) ^^^ b_tb bm) [(h, .inr (0, [.ref r])), (r, .inl (cI, 86, .inl (h_change f g bm)))] A) (cc := cX0_change) (maxL := 6) (ret := (some .int)) (by decide) rfl (Nat.le_of_ble_eq_true rfl) ?_
  intro p e s m below meth c ls A hx hb hr hml hown hts hlocks hname hP hK hD hA hS hX hl Q hQ
  have hown : s.vm.findClass RX0 = some m.cls := hown
  have hl : lv_has ls 6 [(0, .ref h), (1, .int (nI g)), (2, .int (nI bm))] := hl
  refine lv_iload_n (pc := 0) hx hb dX0_change_0 rfl (lv_at hl 1 rfl) ?_
  refine b_cR (pc := 1) (va_runS (As := [.int (nI g)]) (rest := []) ⟨hx, hb, hml, hown, hts⟩ (c_X0_partOf l D cI cC cZ cG g) (va_cwS 1 hts gX0_change_X0_partOf rfl rfl rfl hyS_X0_partOf ⟨Nat.le_of_ble_eq_true rfl, Nat.le_of_ble_eq_true rfl⟩) (b_pRS (wc := []) hK hP [] rfl) rfl rfl hl.1 rfl (lv_room (Nat.le_of_ble_eq_true rfl)) dX0_change_1 ⟨Nat.zero_le _, Nat.zero_le _⟩) ?_
  refine lv_istore_n (pc := 4) (lv' := [(3, .int (nI (8 + g * 13))), (0, .ref h), (1, .int (nI g)), (2, .int (nI bm))]) hx hb dX0_change_4 rfl hl (by decide) rfl (fun ls hl => ?_)
  refine lv_aload_n (pc := 5) hx hb dX0_change_5 rfl (lv_at hl 1 rfl) ?_
  refine va_get (pc := 6) (D := D) (ci := 0) (v := .ref r) (C := RX0) (T := TX0) (N := 1) hx hb hts hi_X0_change_X0 hown hK hP 0 rfl rfl 0 (by decide) (hts _ hw_X0_change_0) (fun _ h9 => h9) rfl dX0_change_6 ?_
  refine lv_iload_n (pc := 9) hx hb dX0_change_9 rfl (lv_at hl 0 rfl) ?_
  refine lv_iconst (pc := 10) (v := 0) hx hb dX0_change_10 (by decide) ?_
  refine lv_iadd (pc := 11) hx hb dX0_change_11 ?_
  refine b_re (nI_add (8 + g * 13) 0) ?_
  refine b_iald (pc := 12) hx hb hK hP 1 0 rfl rfl (8 + g * 13 + 0) rfl (by omega) (by decide) dX0_change_12 ?_
  refine lv_istore (pc := 13) (lv' := [(4, .int (f (8 + g * 13 + 0))), (3, .int (nI (8 + g * 13))), (0, .ref h), (1, .int (nI g)), (2, .int (nI bm))]) hx hb dX0_change_13 hl (by decide) rfl (fun ls hl => ?_)
  refine lv_iload (pc := 15) hx hb dX0_change_15 (lv_at hl 0 rfl) ?_
  refine va_gets (pc := 17) hx hb hX.1.1 hS hown (hts _ hw_X0_change_2) (fun _ h9 => h9) dX0_change_17 ?_
  refine lv_iload_n (pc := 20) hx hb dX0_change_20 rfl (lv_at hl 4 rfl) ?_
  refine va_ti (pc := 21) (v := .int (b_tb bm)) hx hb hX.1.2 hS (vp_in_nI (n := bm) (by omega) (by decide)) (by rw [nI_clamp (by omega)]) dX0_change_21 ?_
  refine lv_ixor (pc := 22) hx hb dX0_change_22 ?_
  refine lv_istore (pc := 23) (lv' := [(5, .int ((f (8 + g * 13 + 0)) ^^^ (b_tb bm))), (4, .int (f (8 + g * 13 + 0))), (3, .int (nI (8 + g * 13))), (0, .ref h), (1, .int (nI g)), (2, .int (nI bm))]) hx hb dX0_change_23 hl (by decide) rfl (fun ls hl => ?_)
  refine lv_iload (pc := 25) hx hb dX0_change_25 (lv_at hl 1 rfl) ?_
  refine lv_if_ne (pc := 27) (tgt := 35) hx hb dX0_change_27 (by decide) (fun c_1 => ?_) (fun c_1 => ?_)
  · skip
    have c_1 : ¬ ((f (8 + g * 13 + 0)) = 0) := c_1
    refine lv_iload_n (pc := 35) hx hb dX0_change_35 rfl (lv_at hl 5 rfl) ?_
    refine lv_iconst (pc := 36) (v := 2) hx hb dX0_change_36 (by decide) ?_
    refine lv_icmp_ne (pc := 37) (tgt := 52) hx hb dX0_change_37 (by decide) (fun c_2 => ?_) (fun c_2 => ?_)
    · skip
      have c_2 : ¬ (bm = 2) := fun h9 => c_2 ((nI_eq (a := bm) (b := 2) (by omega) (by omega)).mpr h9)
      refine lv_aload_n (pc := 52) hx hb dX0_change_52 rfl (lv_at hl 3 rfl) ?_
      refine va_get (pc := 53) (D := D) (ci := 0) (v := .ref r) (C := RX0) (T := TX0) (N := 1) hx hb hts hi_X0_change_X0 hown hK hP 0 rfl rfl 0 (by decide) (hts _ hw_X0_change_0) (fun _ h9 => h9) rfl dX0_change_53 ?_
      refine lv_iload_n (pc := 56) hx hb dX0_change_56 rfl (lv_at hl 2 rfl) ?_
      refine lv_iconst (pc := 57) (v := 2) hx hb dX0_change_57 (by decide) ?_
      refine lv_iadd (pc := 58) hx hb dX0_change_58 ?_
      refine b_re (nI_add (8 + g * 13) 2) ?_
      refine lv_dup2_11 (pc := 59) hx hb dX0_change_59 rfl rfl ?_
      refine b_iald (pc := 60) hx hb hK hP 1 0 rfl rfl (8 + g * 13 + 2) rfl (by omega) (by decide) dX0_change_60 ?_
      refine lv_iload (pc := 61) hx hb dX0_change_61 (lv_at hl 0 rfl) ?_
      refine lv_iload (pc := 63) hx hb dX0_change_63 (lv_at hl 1 rfl) ?_
      refine lv_iconst (pc := 65) (v := 1) hx hb dX0_change_65 (by decide) ?_
      refine lv_iadd (pc := 66) hx hb dX0_change_66 ?_
      refine lv_iconst (pc := 67) (v := 3) hx hb dX0_change_67 (by decide) ?_
      refine lv_iand (pc := 68) hx hb dX0_change_68 ?_
      refine lv_icmp_ne (pc := 69) (tgt := 76) hx hb dX0_change_69 (by decide) (fun c_3 => ?_) (fun c_3 => ?_)
      · skip
        have c_3 : ¬ (((f (8 + g * 13 + 0)) ^^^ (b_tb bm)) = (((f (8 + g * 13 + 0)) + 1) &&& 3)) := c_3
        refine lv_iconst (pc := 76) (v := (-1)) hx hb dX0_change_76 (by decide) ?_
        refine lv_iadd (pc := 77) hx hb dX0_change_77 ?_
        refine b_iast (pc := 78) hx hb hK hP hD hS 1 0 rfl rfl (8 + g * 13 + 2) rfl (by omega) (by decide) dX0_change_78 (fun H locs hP hD hS => ?_)
        obtain ⟨f_4, ef_4⟩ : ∃ z : Nat → Int32, z = upd f (8 + g * 13 + 2) ((f (8 + g * 13 + 2)) + (-1)) := ⟨_, rfl⟩
        have hP : va_P D vwCl [(h, .inr (0, [.ref r])), (r, .inl (cI, 86, .inl f_4))] H := by rw [ef_4]; exact hP
        have hD : va_D A [(h, .inr (0, [.ref r])), (r, .inl (cI, 86, .inl f_4))] := by rw [ef_4]; exact hD
        refine lv_aload_n (pc := 79) hx hb dX0_change_79 rfl (lv_at hl 3 rfl) ?_
        refine va_get (pc := 80) (D := D) (ci := 0) (v := .ref r) (C := RX0) (T := TX0) (N := 1) hx hb hts hi_X0_change_X0 hown hK hP 0 rfl rfl 0 (by decide) (hts _ hw_X0_change_0) (fun _ h9 => h9) rfl dX0_change_80 ?_
        refine lv_iload_n (pc := 83) hx hb dX0_change_83 rfl (lv_at hl 2 rfl) ?_
        refine lv_iconst (pc := 84) (v := 0) hx hb dX0_change_84 (by decide) ?_
        refine lv_iadd (pc := 85) hx hb dX0_change_85 ?_
        refine b_re (nI_add (8 + g * 13) 0) ?_
        refine lv_iload (pc := 86) hx hb dX0_change_86 (lv_at hl 0 rfl) ?_
        refine b_iast (pc := 88) hx hb hK hP hD hS 1 0 rfl rfl (8 + g * 13 + 0) rfl (by omega) (by decide) dX0_change_88 (fun H locs hP hD hS => ?_)
        obtain ⟨f_5, ef_5⟩ : ∃ z : Nat → Int32, z = upd f_4 (8 + g * 13 + 0) ((f (8 + g * 13 + 0)) ^^^ (b_tb bm)) := ⟨_, rfl⟩
        have hP : va_P D vwCl [(h, .inr (0, [.ref r])), (r, .inl (cI, 86, .inl f_5))] H := by rw [ef_5]; exact hP
        have hD : va_D A [(h, .inr (0, [.ref r])), (r, .inl (cI, 86, .inl f_5))] := by rw [ef_5]; exact hD
        refine lv_iload (pc := 89) hx hb dX0_change_89 (lv_at hl 0 rfl) ?_
        refine lv_if_ne (pc := 91) (tgt := 99) hx hb dX0_change_91 (by decide) (fun c_6 => ?_) (fun c_6 => ?_)
        · skip
          have c_6 : ¬ (((f (8 + g * 13 + 0)) ^^^ (b_tb bm)) = 0) := c_6
          refine lv_iload (pc := 99) hx hb dX0_change_99 (lv_at hl 0 rfl) ?_
          subst ef_4
          subst ef_5
          subst hQ
          exact b_retW hx hb hr hlocks hS (by first | rfl | (simp only [h_change, h_change1, h_change2, h_change3, h_look, if_neg c_1, if_neg c_3, if_neg c_6, if_neg c_2])) (by first | exact hP | (refine (b_eqP ?_ hP); simp only [h_change, h_change1, h_change2, h_change3, h_look, if_neg c_1, if_neg c_3, if_neg c_6, if_neg c_2])) dX0_change_101
        · skip
          have c_6 : ((f (8 + g * 13 + 0)) ^^^ (b_tb bm)) = 0 := c_6
          refine lv_aload_n (pc := 94) hx hb dX0_change_94 rfl (lv_at hl 3 rfl) ?_
          refine lv_iload_n (pc := 95) hx hb dX0_change_95 rfl (lv_at hl 2 rfl) ?_
          refine b_cV (pc := 96) (w1 := [(h, .inr (0, [.ref r])), (r, .inl (cI, 86, .inl (h_end f_5 (8 + g * 13))))]) (va_runV (As := [.int (nI (8 + g * 13))]) (rest := []) ⟨hx, hb, hml, hown, hts⟩ (c_X0_end l D cI cC cZ cG tb lo hi H.size h r f_5 (8 + g * 13) (by omega)) (cwV 1 hts gX0_change_X0_end rfl rfl rfl hy_X0_end ⟨Nat.le_of_ble_eq_true rfl, Nat.le_of_ble_eq_true rfl⟩) (b_pWV (wc := [(h, .inr (0, [.ref r])), (r, .inl (cI, 86, .inl f_5))]) hK hP hD (b_Xok_X tb lo hi) [0, 1] rfl (by decide) rfl (b_Xc hX hD hS hA [0, 1] rfl) (ci := 0) (q0 := 0) rfl rfl) rfl rfl hl.1 rfl (lv_room (Nat.le_of_ble_eq_true rfl)) dX0_change_96 ⟨Nat.zero_le _, Nat.zero_le _⟩) hP hD hS hA [0, 1] rfl rfl (fun H locs hP hD hS => ?_)
          have hP : va_P D vwCl [(h, .inr (0, [.ref r])), (r, .inl (cI, 86, .inl (h_end f_5 (8 + g * 13))))] H := hP
          have hD : va_D A [(h, .inr (0, [.ref r])), (r, .inl (cI, 86, .inl (h_end f_5 (8 + g * 13))))] := hD
          refine lv_iload (pc := 99) hx hb dX0_change_99 (lv_at hl 0 rfl) ?_
          subst ef_4
          subst ef_5
          subst hQ
          exact b_retW hx hb hr hlocks hS (by first | rfl | (simp only [h_change, h_change1, h_change2, h_change3, h_look, if_neg c_1, if_neg c_3, if_pos c_6, if_neg c_2])) (by first | exact hP | (refine (b_eqP ?_ hP); simp only [h_change, h_change1, h_change2, h_change3, h_look, if_neg c_1, if_neg c_3, if_pos c_6, if_neg c_2])) dX0_change_101
      · skip
        have c_3 : ((f (8 + g * 13 + 0)) ^^^ (b_tb bm)) = (((f (8 + g * 13 + 0)) + 1) &&& 3) := c_3
        refine lv_iconst (pc := 72) (v := 1) hx hb dX0_change_72 (by decide) ?_
        refine lv_goto (pc := 73) (tgt := 77) hx hb dX0_change_73 (by decide) ?_
        refine lv_iadd (pc := 77) hx hb dX0_change_77 ?_
        refine b_iast (pc := 78) hx hb hK hP hD hS 1 0 rfl rfl (8 + g * 13 + 2) rfl (by omega) (by decide) dX0_change_78 (fun H locs hP hD hS => ?_)
        obtain ⟨f_7, ef_7⟩ : ∃ z : Nat → Int32, z = upd f (8 + g * 13 + 2) ((f (8 + g * 13 + 2)) + 1) := ⟨_, rfl⟩
        have hP : va_P D vwCl [(h, .inr (0, [.ref r])), (r, .inl (cI, 86, .inl f_7))] H := by rw [ef_7]; exact hP
        have hD : va_D A [(h, .inr (0, [.ref r])), (r, .inl (cI, 86, .inl f_7))] := by rw [ef_7]; exact hD
        refine lv_aload_n (pc := 79) hx hb dX0_change_79 rfl (lv_at hl 3 rfl) ?_
        refine va_get (pc := 80) (D := D) (ci := 0) (v := .ref r) (C := RX0) (T := TX0) (N := 1) hx hb hts hi_X0_change_X0 hown hK hP 0 rfl rfl 0 (by decide) (hts _ hw_X0_change_0) (fun _ h9 => h9) rfl dX0_change_80 ?_
        refine lv_iload_n (pc := 83) hx hb dX0_change_83 rfl (lv_at hl 2 rfl) ?_
        refine lv_iconst (pc := 84) (v := 0) hx hb dX0_change_84 (by decide) ?_
        refine lv_iadd (pc := 85) hx hb dX0_change_85 ?_
        refine b_re (nI_add (8 + g * 13) 0) ?_
        refine lv_iload (pc := 86) hx hb dX0_change_86 (lv_at hl 0 rfl) ?_
        refine b_iast (pc := 88) hx hb hK hP hD hS 1 0 rfl rfl (8 + g * 13 + 0) rfl (by omega) (by decide) dX0_change_88 (fun H locs hP hD hS => ?_)
        obtain ⟨f_8, ef_8⟩ : ∃ z : Nat → Int32, z = upd f_7 (8 + g * 13 + 0) ((f (8 + g * 13 + 0)) ^^^ (b_tb bm)) := ⟨_, rfl⟩
        have hP : va_P D vwCl [(h, .inr (0, [.ref r])), (r, .inl (cI, 86, .inl f_8))] H := by rw [ef_8]; exact hP
        have hD : va_D A [(h, .inr (0, [.ref r])), (r, .inl (cI, 86, .inl f_8))] := by rw [ef_8]; exact hD
        refine lv_iload (pc := 89) hx hb dX0_change_89 (lv_at hl 0 rfl) ?_
        refine lv_if_ne (pc := 91) (tgt := 99) hx hb dX0_change_91 (by decide) (fun c_9 => ?_) (fun c_9 => ?_)
        · skip
          have c_9 : ¬ (((f (8 + g * 13 + 0)) ^^^ (b_tb bm)) = 0) := c_9
          refine lv_iload (pc := 99) hx hb dX0_change_99 (lv_at hl 0 rfl) ?_
          subst ef_7
          subst ef_8
          subst hQ
          exact b_retW hx hb hr hlocks hS (by first | rfl | (simp only [h_change, h_change1, h_change2, h_change3, h_look, if_neg c_1, if_pos c_3, if_neg c_9, if_neg c_2])) (by first | exact hP | (refine (b_eqP ?_ hP); simp only [h_change, h_change1, h_change2, h_change3, h_look, if_neg c_1, if_pos c_3, if_neg c_9, if_neg c_2])) dX0_change_101
        · skip
          have c_9 : ((f (8 + g * 13 + 0)) ^^^ (b_tb bm)) = 0 := c_9
          refine lv_aload_n (pc := 94) hx hb dX0_change_94 rfl (lv_at hl 3 rfl) ?_
          refine lv_iload_n (pc := 95) hx hb dX0_change_95 rfl (lv_at hl 2 rfl) ?_
          refine b_cV (pc := 96) (w1 := [(h, .inr (0, [.ref r])), (r, .inl (cI, 86, .inl (h_end f_8 (8 + g * 13))))]) (va_runV (As := [.int (nI (8 + g * 13))]) (rest := []) ⟨hx, hb, hml, hown, hts⟩ (c_X0_end l D cI cC cZ cG tb lo hi H.size h r f_8 (8 + g * 13) (by omega)) (cwV 1 hts gX0_change_X0_end rfl rfl rfl hy_X0_end ⟨Nat.le_of_ble_eq_true rfl, Nat.le_of_ble_eq_true rfl⟩) (b_pWV (wc := [(h, .inr (0, [.ref r])), (r, .inl (cI, 86, .inl f_8))]) hK hP hD (b_Xok_X tb lo hi) [0, 1] rfl (by decide) rfl (b_Xc hX hD hS hA [0, 1] rfl) (ci := 0) (q0 := 0) rfl rfl) rfl rfl hl.1 rfl (lv_room (Nat.le_of_ble_eq_true rfl)) dX0_change_96 ⟨Nat.zero_le _, Nat.zero_le _⟩) hP hD hS hA [0, 1] rfl rfl (fun H locs hP hD hS => ?_)
          have hP : va_P D vwCl [(h, .inr (0, [.ref r])), (r, .inl (cI, 86, .inl (h_end f_8 (8 + g * 13))))] H := hP
          have hD : va_D A [(h, .inr (0, [.ref r])), (r, .inl (cI, 86, .inl (h_end f_8 (8 + g * 13))))] := hD
          refine lv_iload (pc := 99) hx hb dX0_change_99 (lv_at hl 0 rfl) ?_
          subst ef_7
          subst ef_8
          subst hQ
          exact b_retW hx hb hr hlocks hS (by first | rfl | (simp only [h_change, h_change1, h_change2, h_change3, h_look, if_neg c_1, if_pos c_3, if_pos c_9, if_neg c_2])) (by first | exact hP | (refine (b_eqP ?_ hP); simp only [h_change, h_change1, h_change2, h_change3, h_look, if_neg c_1, if_pos c_3, if_pos c_9, if_neg c_2])) dX0_change_101
    · skip
      have c_2 : bm = 2 := (nI_eq (a := bm) (b := 2) (by omega) (by omega)).mp c_2
      refine lv_aload_n (pc := 40) hx hb dX0_change_40 rfl (lv_at hl 3 rfl) ?_
      refine va_get (pc := 41) (D := D) (ci := 0) (v := .ref r) (C := RX0) (T := TX0) (N := 1) hx hb hts hi_X0_change_X0 hown hK hP 0 rfl rfl 0 (by decide) (hts _ hw_X0_change_0) (fun _ h9 => h9) rfl dX0_change_41 ?_
      refine lv_iload_n (pc := 44) hx hb dX0_change_44 rfl (lv_at hl 2 rfl) ?_
      refine lv_iconst (pc := 45) (v := 3) hx hb dX0_change_45 (by decide) ?_
      refine lv_iadd (pc := 46) hx hb dX0_change_46 ?_
      refine b_re (nI_add (8 + g * 13) 3) ?_
      refine lv_iconst (pc := 47) (v := 0) hx hb dX0_change_47 (by decide) ?_
      refine b_iast (pc := 48) hx hb hK hP hD hS 1 0 rfl rfl (8 + g * 13 + 3) rfl (by omega) (by decide) dX0_change_48 (fun H locs hP hD hS => ?_)
      obtain ⟨f_10, ef_10⟩ : ∃ z : Nat → Int32, z = upd f (8 + g * 13 + 3) 0 := ⟨_, rfl⟩
      have hP : va_P D vwCl [(h, .inr (0, [.ref r])), (r, .inl (cI, 86, .inl f_10))] H := by rw [ef_10]; exact hP
      have hD : va_D A [(h, .inr (0, [.ref r])), (r, .inl (cI, 86, .inl f_10))] := by rw [ef_10]; exact hD
      refine lv_goto (pc := 49) (tgt := 79) hx hb dX0_change_49 (by decide) ?_
      refine lv_aload_n (pc := 79) hx hb dX0_change_79 rfl (lv_at hl 3 rfl) ?_
      refine va_get (pc := 80) (D := D) (ci := 0) (v := .ref r) (C := RX0) (T := TX0) (N := 1) hx hb hts hi_X0_change_X0 hown hK hP 0 rfl rfl 0 (by decide) (hts _ hw_X0_change_0) (fun _ h9 => h9) rfl dX0_change_80 ?_
      refine lv_iload_n (pc := 83) hx hb dX0_change_83 rfl (lv_at hl 2 rfl) ?_
      refine lv_iconst (pc := 84) (v := 0) hx hb dX0_change_84 (by decide) ?_
      refine lv_iadd (pc := 85) hx hb dX0_change_85 ?_
      refine b_re (nI_add (8 + g * 13) 0) ?_
      refine lv_iload (pc := 86) hx hb dX0_change_86 (lv_at hl 0 rfl) ?_
      refine b_iast (pc := 88) hx hb hK hP hD hS 1 0 rfl rfl (8 + g * 13 + 0) rfl (by omega) (by decide) dX0_change_88 (fun H locs hP hD hS => ?_)
      obtain ⟨f_11, ef_11⟩ : ∃ z : Nat → Int32, z = upd f_10 (8 + g * 13 + 0) ((f (8 + g * 13 + 0)) ^^^ (b_tb bm)) := ⟨_, rfl⟩
      have hP : va_P D vwCl [(h, .inr (0, [.ref r])), (r, .inl (cI, 86, .inl f_11))] H := by rw [ef_11]; exact hP
      have hD : va_D A [(h, .inr (0, [.ref r])), (r, .inl (cI, 86, .inl f_11))] := by rw [ef_11]; exact hD
      refine lv_iload (pc := 89) hx hb dX0_change_89 (lv_at hl 0 rfl) ?_
      refine lv_if_ne (pc := 91) (tgt := 99) hx hb dX0_change_91 (by decide) (fun c_12 => ?_) (fun c_12 => ?_)
      · skip
        have c_12 : ¬ (((f (8 + g * 13 + 0)) ^^^ (b_tb bm)) = 0) := c_12
        refine lv_iload (pc := 99) hx hb dX0_change_99 (lv_at hl 0 rfl) ?_
        subst ef_10
        subst ef_11
        subst hQ
        exact b_retW hx hb hr hlocks hS (by first | rfl | (simp only [h_change, h_change1, h_change2, h_change3, h_look, if_neg c_1, if_neg c_12, if_pos c_2])) (by first | exact hP | (refine (b_eqP ?_ hP); simp only [h_change, h_change1, h_change2, h_change3, h_look, if_neg c_1, if_neg c_12, if_pos c_2])) dX0_change_101
      · skip
        have c_12 : ((f (8 + g * 13 + 0)) ^^^ (b_tb bm)) = 0 := c_12
        refine lv_aload_n (pc := 94) hx hb dX0_change_94 rfl (lv_at hl 3 rfl) ?_
        refine lv_iload_n (pc := 95) hx hb dX0_change_95 rfl (lv_at hl 2 rfl) ?_
        refine b_cV (pc := 96) (w1 := [(h, .inr (0, [.ref r])), (r, .inl (cI, 86, .inl (h_end f_11 (8 + g * 13))))]) (va_runV (As := [.int (nI (8 + g * 13))]) (rest := []) ⟨hx, hb, hml, hown, hts⟩ (c_X0_end l D cI cC cZ cG tb lo hi H.size h r f_11 (8 + g * 13) (by omega)) (cwV 1 hts gX0_change_X0_end rfl rfl rfl hy_X0_end ⟨Nat.le_of_ble_eq_true rfl, Nat.le_of_ble_eq_true rfl⟩) (b_pWV (wc := [(h, .inr (0, [.ref r])), (r, .inl (cI, 86, .inl f_11))]) hK hP hD (b_Xok_X tb lo hi) [0, 1] rfl (by decide) rfl (b_Xc hX hD hS hA [0, 1] rfl) (ci := 0) (q0 := 0) rfl rfl) rfl rfl hl.1 rfl (lv_room (Nat.le_of_ble_eq_true rfl)) dX0_change_96 ⟨Nat.zero_le _, Nat.zero_le _⟩) hP hD hS hA [0, 1] rfl rfl (fun H locs hP hD hS => ?_)
        have hP : va_P D vwCl [(h, .inr (0, [.ref r])), (r, .inl (cI, 86, .inl (h_end f_11 (8 + g * 13))))] H := hP
        have hD : va_D A [(h, .inr (0, [.ref r])), (r, .inl (cI, 86, .inl (h_end f_11 (8 + g * 13))))] := hD
        refine lv_iload (pc := 99) hx hb dX0_change_99 (lv_at hl 0 rfl) ?_
        subst ef_10
        subst ef_11
        subst hQ
        exact b_retW hx hb hr hlocks hS (by first | rfl | (simp only [h_change, h_change1, h_change2, h_change3, h_look, if_neg c_1, if_pos c_12, if_pos c_2])) (by first | exact hP | (refine (b_eqP ?_ hP); simp only [h_change, h_change1, h_change2, h_change3, h_look, if_neg c_1, if_pos c_12, if_pos c_2])) dX0_change_101
  · skip
    have c_1 : (f (8 + g * 13 + 0)) = 0 := c_1
    refine lv_aload_n (pc := 30) hx hb dX0_change_30 rfl (lv_at hl 3 rfl) ?_
    refine lv_iload_n (pc := 31) hx hb dX0_change_31 rfl (lv_at hl 2 rfl) ?_
    refine b_cV (pc := 32) (w1 := [(h, .inr (0, [.ref r])), (r, .inl (cI, 86, .inl (h_begin f (8 + g * 13))))]) (va_runV (As := [.int (nI (8 + g * 13))]) (rest := []) ⟨hx, hb, hml, hown, hts⟩ (c_X0_begin l D cI cC cZ cG tb lo hi s.heap.size h r f (8 + g * 13) (by omega)) (cwV 1 hts gX0_change_X0_begin rfl rfl rfl hy_X0_begin ⟨Nat.le_of_ble_eq_true rfl, Nat.le_of_ble_eq_true rfl⟩) (b_pWV (wc := [(h, .inr (0, [.ref r])), (r, .inl (cI, 86, .inl f))]) hK hP hD (b_Xok_X tb lo hi) [0, 1] rfl (by decide) rfl (b_Xc hX hD hS hA [0, 1] rfl) (ci := 0) (q0 := 0) rfl rfl) rfl rfl hl.1 rfl (lv_room (Nat.le_of_ble_eq_true rfl)) dX0_change_32 ⟨Nat.zero_le _, Nat.zero_le _⟩) hP hD hS hA [0, 1] rfl rfl (fun H locs hP hD hS => ?_)
    have hP : va_P D vwCl [(h, .inr (0, [.ref r])), (r, .inl (cI, 86, .inl (h_begin f (8 + g * 13))))] H := hP
    have hD : va_D A [(h, .inr (0, [.ref r])), (r, .inl (cI, 86, .inl (h_begin f (8 + g * 13))))] := hD
    refine lv_iload_n (pc := 35) hx hb dX0_change_35 rfl (lv_at hl 5 rfl) ?_
    refine lv_iconst (pc := 36) (v := 2) hx hb dX0_change_36 (by decide) ?_
    refine lv_icmp_ne (pc := 37) (tgt := 52) hx hb dX0_change_37 (by decide) (fun c_13 => ?_) (fun c_13 => ?_)
    · skip
      have c_13 : ¬ (bm = 2) := fun h9 => c_13 ((nI_eq (a := bm) (b := 2) (by omega) (by omega)).mpr h9)
      refine lv_aload_n (pc := 52) hx hb dX0_change_52 rfl (lv_at hl 3 rfl) ?_
      refine va_get (pc := 53) (D := D) (ci := 0) (v := .ref r) (C := RX0) (T := TX0) (N := 1) hx hb hts hi_X0_change_X0 hown hK hP 0 rfl rfl 0 (by decide) (hts _ hw_X0_change_0) (fun _ h9 => h9) rfl dX0_change_53 ?_
      refine lv_iload_n (pc := 56) hx hb dX0_change_56 rfl (lv_at hl 2 rfl) ?_
      refine lv_iconst (pc := 57) (v := 2) hx hb dX0_change_57 (by decide) ?_
      refine lv_iadd (pc := 58) hx hb dX0_change_58 ?_
      refine b_re (nI_add (8 + g * 13) 2) ?_
      refine lv_dup2_11 (pc := 59) hx hb dX0_change_59 rfl rfl ?_
      refine b_iald (pc := 60) hx hb hK hP 1 0 rfl rfl (8 + g * 13 + 2) rfl (by omega) (by decide) dX0_change_60 ?_
      refine lv_iload (pc := 61) hx hb dX0_change_61 (lv_at hl 0 rfl) ?_
      refine lv_iload (pc := 63) hx hb dX0_change_63 (lv_at hl 1 rfl) ?_
      refine lv_iconst (pc := 65) (v := 1) hx hb dX0_change_65 (by decide) ?_
      refine lv_iadd (pc := 66) hx hb dX0_change_66 ?_
      refine lv_iconst (pc := 67) (v := 3) hx hb dX0_change_67 (by decide) ?_
      refine lv_iand (pc := 68) hx hb dX0_change_68 ?_
      refine lv_icmp_ne (pc := 69) (tgt := 76) hx hb dX0_change_69 (by decide) (fun c_14 => ?_) (fun c_14 => ?_)
      · skip
        have c_14 : ¬ (((f (8 + g * 13 + 0)) ^^^ (b_tb bm)) = (((f (8 + g * 13 + 0)) + 1) &&& 3)) := c_14
        refine lv_iconst (pc := 76) (v := (-1)) hx hb dX0_change_76 (by decide) ?_
        refine lv_iadd (pc := 77) hx hb dX0_change_77 ?_
        refine b_iast (pc := 78) hx hb hK hP hD hS 1 0 rfl rfl (8 + g * 13 + 2) rfl (by omega) (by decide) dX0_change_78 (fun H locs hP hD hS => ?_)
        obtain ⟨f_15, ef_15⟩ : ∃ z : Nat → Int32, z = upd (h_begin f (8 + g * 13)) (8 + g * 13 + 2) (((h_begin f (8 + g * 13)) (8 + g * 13 + 2)) + (-1)) := ⟨_, rfl⟩
        have hP : va_P D vwCl [(h, .inr (0, [.ref r])), (r, .inl (cI, 86, .inl f_15))] H := by rw [ef_15]; exact hP
        have hD : va_D A [(h, .inr (0, [.ref r])), (r, .inl (cI, 86, .inl f_15))] := by rw [ef_15]; exact hD
        refine lv_aload_n (pc := 79) hx hb dX0_change_79 rfl (lv_at hl 3 rfl) ?_
        refine va_get (pc := 80) (D := D) (ci := 0) (v := .ref r) (C := RX0) (T := TX0) (N := 1) hx hb hts hi_X0_change_X0 hown hK hP 0 rfl rfl 0 (by decide) (hts _ hw_X0_change_0) (fun _ h9 => h9) rfl dX0_change_80 ?_
        refine lv_iload_n (pc := 83) hx hb dX0_change_83 rfl (lv_at hl 2 rfl) ?_
        refine lv_iconst (pc := 84) (v := 0) hx hb dX0_change_84 (by decide) ?_
        refine lv_iadd (pc := 85) hx hb dX0_change_85 ?_
        refine b_re (nI_add (8 + g * 13) 0) ?_
        refine lv_iload (pc := 86) hx hb dX0_change_86 (lv_at hl 0 rfl) ?_
        refine b_iast (pc := 88) hx hb hK hP hD hS 1 0 rfl rfl (8 + g * 13 + 0) rfl (by omega) (by decide) dX0_change_88 (fun H locs hP hD hS => ?_)
        obtain ⟨f_16, ef_16⟩ : ∃ z : Nat → Int32, z = upd f_15 (8 + g * 13 + 0) ((f (8 + g * 13 + 0)) ^^^ (b_tb bm)) := ⟨_, rfl⟩
        have hP : va_P D vwCl [(h, .inr (0, [.ref r])), (r, .inl (cI, 86, .inl f_16))] H := by rw [ef_16]; exact hP
        have hD : va_D A [(h, .inr (0, [.ref r])), (r, .inl (cI, 86, .inl f_16))] := by rw [ef_16]; exact hD
        refine lv_iload (pc := 89) hx hb dX0_change_89 (lv_at hl 0 rfl) ?_
        refine lv_if_ne (pc := 91) (tgt := 99) hx hb dX0_change_91 (by decide) (fun c_17 => ?_) (fun c_17 => ?_)
        · skip
          have c_17 : ¬ (((f (8 + g * 13 + 0)) ^^^ (b_tb bm)) = 0) := c_17
          refine lv_iload (pc := 99) hx hb dX0_change_99 (lv_at hl 0 rfl) ?_
          subst ef_15
          subst ef_16
          subst hQ
          exact b_retW hx hb hr hlocks hS (by first | rfl | (simp only [h_change, h_change1, h_change2, h_change3, h_look, if_pos c_1, if_neg c_14, if_neg c_17, if_neg c_13])) (by first | exact hP | (refine (b_eqP ?_ hP); simp only [h_change, h_change1, h_change2, h_change3, h_look, if_pos c_1, if_neg c_14, if_neg c_17, if_neg c_13])) dX0_change_101
        · skip
          have c_17 : ((f (8 + g * 13 + 0)) ^^^ (b_tb bm)) = 0 := c_17
          refine lv_aload_n (pc := 94) hx hb dX0_change_94 rfl (lv_at hl 3 rfl) ?_
          refine lv_iload_n (pc := 95) hx hb dX0_change_95 rfl (lv_at hl 2 rfl) ?_
          refine b_cV (pc := 96) (w1 := [(h, .inr (0, [.ref r])), (r, .inl (cI, 86, .inl (h_end f_16 (8 + g * 13))))]) (va_runV (As := [.int (nI (8 + g * 13))]) (rest := []) ⟨hx, hb, hml, hown, hts⟩ (c_X0_end l D cI cC cZ cG tb lo hi H.size h r f_16 (8 + g * 13) (by omega)) (cwV 1 hts gX0_change_X0_end rfl rfl rfl hy_X0_end ⟨Nat.le_of_ble_eq_true rfl, Nat.le_of_ble_eq_true rfl⟩) (b_pWV (wc := [(h, .inr (0, [.ref r])), (r, .inl (cI, 86, .inl f_16))]) hK hP hD (b_Xok_X tb lo hi) [0, 1] rfl (by decide) rfl (b_Xc hX hD hS hA [0, 1] rfl) (ci := 0) (q0 := 0) rfl rfl) rfl rfl hl.1 rfl (lv_room (Nat.le_of_ble_eq_true rfl)) dX0_change_96 ⟨Nat.zero_le _, Nat.zero_le _⟩) hP hD hS hA [0, 1] rfl rfl (fun H locs hP hD hS => ?_)
          have hP : va_P D vwCl [(h, .inr (0, [.ref r])), (r, .inl (cI, 86, .inl (h_end f_16 (8 + g * 13))))] H := hP
          have hD : va_D A [(h, .inr (0, [.ref r])), (r, .inl (cI, 86, .inl (h_end f_16 (8 + g * 13))))] := hD
          refine lv_iload (pc := 99) hx hb dX0_change_99 (lv_at hl 0 rfl) ?_
          subst ef_15
          subst ef_16
          subst hQ
          exact b_retW hx hb hr hlocks hS (by first | rfl | (simp only [h_change, h_change1, h_change2, h_change3, h_look, if_pos c_1, if_neg c_14, if_pos c_17, if_neg c_13])) (by first | exact hP | (refine (b_eqP ?_ hP); simp only [h_change, h_change1, h_change2, h_change3, h_look, if_pos c_1, if_neg c_14, if_pos c_17, if_neg c_13])) dX0_change_101
      · skip
        have c_14 : ((f (8 + g * 13 + 0)) ^^^ (b_tb bm)) = (((f (8 + g * 13 + 0)) + 1) &&& 3) := c_14
        refine lv_iconst (pc := 72) (v := 1) hx hb dX0_change_72 (by decide) ?_
        refine lv_goto (pc := 73) (tgt := 77) hx hb dX0_change_73 (by decide) ?_
        refine lv_iadd (pc := 77) hx hb dX0_change_77 ?_
        refine b_iast (pc := 78) hx hb hK hP hD hS 1 0 rfl rfl (8 + g * 13 + 2) rfl (by omega) (by decide) dX0_change_78 (fun H locs hP hD hS => ?_)
        obtain ⟨f_18, ef_18⟩ : ∃ z : Nat → Int32, z = upd (h_begin f (8 + g * 13)) (8 + g * 13 + 2) (((h_begin f (8 + g * 13)) (8 + g * 13 + 2)) + 1) := ⟨_, rfl⟩
        have hP : va_P D vwCl [(h, .inr (0, [.ref r])), (r, .inl (cI, 86, .inl f_18))] H := by rw [ef_18]; exact hP
        have hD : va_D A [(h, .inr (0, [.ref r])), (r, .inl (cI, 86, .inl f_18))] := by rw [ef_18]; exact hD
        refine lv_aload_n (pc := 79) hx hb dX0_change_79 rfl (lv_at hl 3 rfl) ?_
        refine va_get (pc := 80) (D := D) (ci := 0) (v := .ref r) (C := RX0) (T := TX0) (N := 1) hx hb hts hi_X0_change_X0 hown hK hP 0 rfl rfl 0 (by decide) (hts _ hw_X0_change_0) (fun _ h9 => h9) rfl dX0_change_80 ?_
        refine lv_iload_n (pc := 83) hx hb dX0_change_83 rfl (lv_at hl 2 rfl) ?_
        refine lv_iconst (pc := 84) (v := 0) hx hb dX0_change_84 (by decide) ?_
        refine lv_iadd (pc := 85) hx hb dX0_change_85 ?_
        refine b_re (nI_add (8 + g * 13) 0) ?_
        refine lv_iload (pc := 86) hx hb dX0_change_86 (lv_at hl 0 rfl) ?_
        refine b_iast (pc := 88) hx hb hK hP hD hS 1 0 rfl rfl (8 + g * 13 + 0) rfl (by omega) (by decide) dX0_change_88 (fun H locs hP hD hS => ?_)
        obtain ⟨f_19, ef_19⟩ : ∃ z : Nat → Int32, z = upd f_18 (8 + g * 13 + 0) ((f (8 + g * 13 + 0)) ^^^ (b_tb bm)) := ⟨_, rfl⟩
        have hP : va_P D vwCl [(h, .inr (0, [.ref r])), (r, .inl (cI, 86, .inl f_19))] H := by rw [ef_19]; exact hP
        have hD : va_D A [(h, .inr (0, [.ref r])), (r, .inl (cI, 86, .inl f_19))] := by rw [ef_19]; exact hD
        refine lv_iload (pc := 89) hx hb dX0_change_89 (lv_at hl 0 rfl) ?_
        refine lv_if_ne (pc := 91) (tgt := 99) hx hb dX0_change_91 (by decide) (fun c_20 => ?_) (fun c_20 => ?_)
        · skip
          have c_20 : ¬ (((f (8 + g * 13 + 0)) ^^^ (b_tb bm)) = 0) := c_20
          refine lv_iload (pc := 99) hx hb dX0_change_99 (lv_at hl 0 rfl) ?_
          subst ef_18
          subst ef_19
          subst hQ
          exact b_retW hx hb hr hlocks hS (by first | rfl | (simp only [h_change, h_change1, h_change2, h_change3, h_look, if_pos c_1, if_pos c_14, if_neg c_20, if_neg c_13])) (by first | exact hP | (refine (b_eqP ?_ hP); simp only [h_change, h_change1, h_change2, h_change3, h_look, if_pos c_1, if_pos c_14, if_neg c_20, if_neg c_13])) dX0_change_101
        · skip
          have c_20 : ((f (8 + g * 13 + 0)) ^^^ (b_tb bm)) = 0 := c_20
          refine lv_aload_n (pc := 94) hx hb dX0_change_94 rfl (lv_at hl 3 rfl) ?_
          refine lv_iload_n (pc := 95) hx hb dX0_change_95 rfl (lv_at hl 2 rfl) ?_
          refine b_cV (pc := 96) (w1 := [(h, .inr (0, [.ref r])), (r, .inl (cI, 86, .inl (h_end f_19 (8 + g * 13))))]) (va_runV (As := [.int (nI (8 + g * 13))]) (rest := []) ⟨hx, hb, hml, hown, hts⟩ (c_X0_end l D cI cC cZ cG tb lo hi H.size h r f_19 (8 + g * 13) (by omega)) (cwV 1 hts gX0_change_X0_end rfl rfl rfl hy_X0_end ⟨Nat.le_of_ble_eq_true rfl, Nat.le_of_ble_eq_true rfl⟩) (b_pWV (wc := [(h, .inr (0, [.ref r])), (r, .inl (cI, 86, .inl f_19))]) hK hP hD (b_Xok_X tb lo hi) [0, 1] rfl (by decide) rfl (b_Xc hX hD hS hA [0, 1] rfl) (ci := 0) (q0 := 0) rfl rfl) rfl rfl hl.1 rfl (lv_room (Nat.le_of_ble_eq_true rfl)) dX0_change_96 ⟨Nat.zero_le _, Nat.zero_le _⟩) hP hD hS hA [0, 1] rfl rfl (fun H locs hP hD hS => ?_)
          have hP : va_P D vwCl [(h, .inr (0, [.ref r])), (r, .inl (cI, 86, .inl (h_end f_19 (8 + g * 13))))] H := hP
          have hD : va_D A [(h, .inr (0, [.ref r])), (r, .inl (cI, 86, .inl (h_end f_19 (8 + g * 13))))] := hD
          refine lv_iload (pc := 99) hx hb dX0_change_99 (lv_at hl 0 rfl) ?_
          subst ef_18
          subst ef_19
          subst hQ
          exact b_retW hx hb hr hlocks hS (by first | rfl | (simp only [h_change, h_change1, h_change2, h_change3, h_look, if_pos c_1, if_pos c_14, if_pos c_20, if_neg c_13])) (by first | exact hP | (refine (b_eqP ?_ hP); simp only [h_change, h_change1, h_change2, h_change3, h_look, if_pos c_1, if_pos c_14, if_pos c_20, if_neg c_13])) dX0_change_101
    · skip
      have c_13 : bm = 2 := (nI_eq (a := bm) (b := 2) (by omega) (by omega)).mp c_13
      refine lv_aload_n (pc := 40) hx hb dX0_change_40 rfl (lv_at hl 3 rfl) ?_
      refine va_get (pc := 41) (D := D) (ci := 0) (v := .ref r) (C := RX0) (T := TX0) (N := 1) hx hb hts hi_X0_change_X0 hown hK hP 0 rfl rfl 0 (by decide) (hts _ hw_X0_change_0) (fun _ h9 => h9) rfl dX0_change_41 ?_
      refine lv_iload_n (pc := 44) hx hb dX0_change_44 rfl (lv_at hl 2 rfl) ?_
      refine lv_iconst (pc := 45) (v := 3) hx hb dX0_change_45 (by decide) ?_
      refine lv_iadd (pc := 46) hx hb dX0_change_46 ?_
      refine b_re (nI_add (8 + g * 13) 3) ?_
      refine lv_iconst (pc := 47) (v := 0) hx hb dX0_change_47 (by decide) ?_
      refine b_iast (pc := 48) hx hb hK hP hD hS 1 0 rfl rfl (8 + g * 13 + 3) rfl (by omega) (by decide) dX0_change_48 (fun H locs hP hD hS => ?_)
      obtain ⟨f_21, ef_21⟩ : ∃ z : Nat → Int32, z = upd (h_begin f (8 + g * 13)) (8 + g * 13 + 3) 0 := ⟨_, rfl⟩
      have hP : va_P D vwCl [(h, .inr (0, [.ref r])), (r, .inl (cI, 86, .inl f_21))] H := by rw [ef_21]; exact hP
      have hD : va_D A [(h, .inr (0, [.ref r])), (r, .inl (cI, 86, .inl f_21))] := by rw [ef_21]; exact hD
      refine lv_goto (pc := 49) (tgt := 79) hx hb dX0_change_49 (by decide) ?_
      refine lv_aload_n (pc := 79) hx hb dX0_change_79 rfl (lv_at hl 3 rfl) ?_
      refine va_get (pc := 80) (D := D) (ci := 0) (v := .ref r) (C := RX0) (T := TX0) (N := 1) hx hb hts hi_X0_change_X0 hown hK hP 0 rfl rfl 0 (by decide) (hts _ hw_X0_change_0) (fun _ h9 => h9) rfl dX0_change_80 ?_
      refine lv_iload_n (pc := 83) hx hb dX0_change_83 rfl (lv_at hl 2 rfl) ?_
      refine lv_iconst (pc := 84) (v := 0) hx hb dX0_change_84 (by decide) ?_
      refine lv_iadd (pc := 85) hx hb dX0_change_85 ?_
      refine b_re (nI_add (8 + g * 13) 0) ?_
      refine lv_iload (pc := 86) hx hb dX0_change_86 (lv_at hl 0 rfl) ?_
      refine b_iast (pc := 88) hx hb hK hP hD hS 1 0 rfl rfl (8 + g * 13 + 0) rfl (by omega) (by decide) dX0_change_88 (fun H locs hP hD hS => ?_)
      obtain ⟨f_22, ef_22⟩ : ∃ z : Nat → Int32, z = upd f_21 (8 + g * 13 + 0) ((f (8 + g * 13 + 0)) ^^^ (b_tb bm)) := ⟨_, rfl⟩
      have hP : va_P D vwCl [(h, .inr (0, [.ref r])), (r, .inl (cI, 86, .inl f_22))] H := by rw [ef_22]; exact hP
      have hD : va_D A [(h, .inr (0, [.ref r])), (r, .inl (cI, 86, .inl f_22))] := by rw [ef_22]; exact hD
      refine lv_iload (pc := 89) hx hb dX0_change_89 (lv_at hl 0 rfl) ?_
      refine lv_if_ne (pc := 91) (tgt := 99) hx hb dX0_change_91 (by decide) (fun c_23 => ?_) (fun c_23 => ?_)
      · skip
        have c_23 : ¬ (((f (8 + g * 13 + 0)) ^^^ (b_tb bm)) = 0) := c_23
        refine lv_iload (pc := 99) hx hb dX0_change_99 (lv_at hl 0 rfl) ?_
        subst ef_21
        subst ef_22
        subst hQ
        exact b_retW hx hb hr hlocks hS (by first | rfl | (simp only [h_change, h_change1, h_change2, h_change3, h_look, if_pos c_1, if_neg c_23, if_pos c_13])) (by first | exact hP | (refine (b_eqP ?_ hP); simp only [h_change, h_change1, h_change2, h_change3, h_look, if_pos c_1, if_neg c_23, if_pos c_13])) dX0_change_101
      · skip
        have c_23 : ((f (8 + g * 13 + 0)) ^^^ (b_tb bm)) = 0 := c_23
        refine lv_aload_n (pc := 94) hx hb dX0_change_94 rfl (lv_at hl 3 rfl) ?_
        refine lv_iload_n (pc := 95) hx hb dX0_change_95 rfl (lv_at hl 2 rfl) ?_
        refine b_cV (pc := 96) (w1 := [(h, .inr (0, [.ref r])), (r, .inl (cI, 86, .inl (h_end f_22 (8 + g * 13))))]) (va_runV (As := [.int (nI (8 + g * 13))]) (rest := []) ⟨hx, hb, hml, hown, hts⟩ (c_X0_end l D cI cC cZ cG tb lo hi H.size h r f_22 (8 + g * 13) (by omega)) (cwV 1 hts gX0_change_X0_end rfl rfl rfl hy_X0_end ⟨Nat.le_of_ble_eq_true rfl, Nat.le_of_ble_eq_true rfl⟩) (b_pWV (wc := [(h, .inr (0, [.ref r])), (r, .inl (cI, 86, .inl f_22))]) hK hP hD (b_Xok_X tb lo hi) [0, 1] rfl (by decide) rfl (b_Xc hX hD hS hA [0, 1] rfl) (ci := 0) (q0 := 0) rfl rfl) rfl rfl hl.1 rfl (lv_room (Nat.le_of_ble_eq_true rfl)) dX0_change_96 ⟨Nat.zero_le _, Nat.zero_le _⟩) hP hD hS hA [0, 1] rfl rfl (fun H locs hP hD hS => ?_)
        have hP : va_P D vwCl [(h, .inr (0, [.ref r])), (r, .inl (cI, 86, .inl (h_end f_22 (8 + g * 13))))] H := hP
        have hD : va_D A [(h, .inr (0, [.ref r])), (r, .inl (cI, 86, .inl (h_end f_22 (8 + g * 13))))] := hD
        refine lv_iload (pc := 99) hx hb dX0_change_99 (lv_at hl 0 rfl) ?_
        subst ef_21
        subst ef_22
        subst hQ
        exact b_retW hx hb hr hlocks hS (by first | rfl | (simp only [h_change, h_change1, h_change2, h_change3, h_look, if_pos c_1, if_pos c_23, if_pos c_13])) (by first | exact hP | (refine (b_eqP ?_ hP); simp only [h_change, h_change1, h_change2, h_change3, h_look, if_pos c_1, if_pos c_23, if_pos c_13])) dX0_change_101
theorem hw_X0_free_0 : (.fieldLink RX0 11 "BeamTurnstiles$Hall" "row" "[I" : Cond) ∈ wsX0_free := by decide +kernel
theorem hi_X0_free_X0 : ∀ w ∈ wsX00, w ∈ wsX0_free := by decide +kernel
set_option maxHeartbeats 4000000 in
set_option maxRecDepth 100000 in
/-- Hall.free -/
theorem c_X0_free (l : Launch) (D : va_G) (cI cC cZ cG : ClassId) (tb lo hi : Nat) (sz : Nat) (h : Nat) (r : Nat) (f : Nat → Int32) (g : Nat) (hg : g < 6) : Met l yX0_free wsX0_free ({ frames := 3, cells := 0, slots := 0, locals := 62 } : Room) (b_W D (b_T cI cC cZ cG) (b_X tb lo hi) [(h, .inr (0, [.ref r])), (r, .inl (cI, 86, .inl f))] sz [.ref h, .int (nI g)]) (b_Qi D (f (8 + g * 13 + 0)) [(h, .inr (0, [.ref r])), (r, .inl (cI, 86, .inl (h_free f g)))] (va_A [(h, .inr (0, [.ref r])), (r, .inl (cI, 86, .inl f))] sz)) 0 0 (va_A [(h, .inr (0, [.ref r])), (r, .inl (cI, 86, .inl f))] sz) := by
  refine b_enterW (Qc := fun A => b_Qi D (f (8 + g * 13 + 0)) [(h, .inr (0, [.ref r])), (r, .inl (cI, 86, .inl (h_free f g)))] A) (cc := cX0_free) (maxL := 4) (ret := (some .int)) (by decide) rfl (Nat.le_of_ble_eq_true rfl) ?_
  intro p e s m below meth c ls A hx hb hr hml hown hts hlocks hname hP hK hD hA hS hX hl Q hQ
  have hown : s.vm.findClass RX0 = some m.cls := hown
  have hl : lv_has ls 4 [(0, .ref h), (1, .int (nI g))] := hl
  refine lv_iload_n (pc := 0) hx hb dX0_free_0 rfl (lv_at hl 1 rfl) ?_
  refine b_cR (pc := 1) (va_runS (As := [.int (nI g)]) (rest := []) ⟨hx, hb, hml, hown, hts⟩ (c_X0_partOf l D cI cC cZ cG g) (va_cwS 1 hts gX0_free_X0_partOf rfl rfl rfl hyS_X0_partOf ⟨Nat.le_of_ble_eq_true rfl, Nat.le_of_ble_eq_true rfl⟩) (b_pRS (wc := []) hK hP [] rfl) rfl rfl hl.1 rfl (lv_room (Nat.le_of_ble_eq_true rfl)) dX0_free_1 ⟨Nat.zero_le _, Nat.zero_le _⟩) ?_
  refine lv_istore_n (pc := 4) (lv' := [(2, .int (nI (8 + g * 13))), (0, .ref h), (1, .int (nI g))]) hx hb dX0_free_4 rfl hl (by decide) rfl (fun ls hl => ?_)
  refine lv_aload_n (pc := 5) hx hb dX0_free_5 rfl (lv_at hl 1 rfl) ?_
  refine va_get (pc := 6) (D := D) (ci := 0) (v := .ref r) (C := RX0) (T := TX0) (N := 1) hx hb hts hi_X0_free_X0 hown hK hP 0 rfl rfl 0 (by decide) (hts _ hw_X0_free_0) (fun _ h9 => h9) rfl dX0_free_6 ?_
  refine lv_iload_n (pc := 9) hx hb dX0_free_9 rfl (lv_at hl 0 rfl) ?_
  refine lv_iconst (pc := 10) (v := 0) hx hb dX0_free_10 (by decide) ?_
  refine lv_iadd (pc := 11) hx hb dX0_free_11 ?_
  refine b_re (nI_add (8 + g * 13) 0) ?_
  refine b_iald (pc := 12) hx hb hK hP 1 0 rfl rfl (8 + g * 13 + 0) rfl (by omega) (by decide) dX0_free_12 ?_
  refine lv_istore_n (pc := 13) (lv' := [(3, .int (f (8 + g * 13 + 0))), (2, .int (nI (8 + g * 13))), (0, .ref h), (1, .int (nI g))]) hx hb dX0_free_13 rfl hl (by decide) rfl (fun ls hl => ?_)
  refine lv_aload_n (pc := 14) hx hb dX0_free_14 rfl (lv_at hl 2 rfl) ?_
  refine va_get (pc := 15) (D := D) (ci := 0) (v := .ref r) (C := RX0) (T := TX0) (N := 1) hx hb hts hi_X0_free_X0 hown hK hP 0 rfl rfl 0 (by decide) (hts _ hw_X0_free_0) (fun _ h9 => h9) rfl dX0_free_15 ?_
  refine lv_iload_n (pc := 18) hx hb dX0_free_18 rfl (lv_at hl 1 rfl) ?_
  refine lv_iconst (pc := 19) (v := 0) hx hb dX0_free_19 (by decide) ?_
  refine lv_iadd (pc := 20) hx hb dX0_free_20 ?_
  refine b_re (nI_add (8 + g * 13) 0) ?_
  refine lv_iconst (pc := 21) (v := 0) hx hb dX0_free_21 (by decide) ?_
  refine b_iast (pc := 22) hx hb hK hP hD hS 1 0 rfl rfl (8 + g * 13 + 0) rfl (by omega) (by decide) dX0_free_22 (fun H locs hP hD hS => ?_)
  obtain ⟨f_1, ef_1⟩ : ∃ z : Nat → Int32, z = upd f (8 + g * 13 + 0) 0 := ⟨_, rfl⟩
  have hP : va_P D vwCl [(h, .inr (0, [.ref r])), (r, .inl (cI, 86, .inl f_1))] H := by rw [ef_1]; exact hP
  have hD : va_D A [(h, .inr (0, [.ref r])), (r, .inl (cI, 86, .inl f_1))] := by rw [ef_1]; exact hD
  refine lv_aload_n (pc := 23) hx hb dX0_free_23 rfl (lv_at hl 2 rfl) ?_
  refine va_get (pc := 24) (D := D) (ci := 0) (v := .ref r) (C := RX0) (T := TX0) (N := 1) hx hb hts hi_X0_free_X0 hown hK hP 0 rfl rfl 0 (by decide) (hts _ hw_X0_free_0) (fun _ h9 => h9) rfl dX0_free_24 ?_
  refine lv_iload_n (pc := 27) hx hb dX0_free_27 rfl (lv_at hl 1 rfl) ?_
  refine lv_iconst (pc := 28) (v := 3) hx hb dX0_free_28 (by decide) ?_
  refine lv_iadd (pc := 29) hx hb dX0_free_29 ?_
  refine b_re (nI_add (8 + g * 13) 3) ?_
  refine lv_iconst (pc := 30) (v := 0) hx hb dX0_free_30 (by decide) ?_
  refine b_iast (pc := 31) hx hb hK hP hD hS 1 0 rfl rfl (8 + g * 13 + 3) rfl (by omega) (by decide) dX0_free_31 (fun H locs hP hD hS => ?_)
  obtain ⟨f_2, ef_2⟩ : ∃ z : Nat → Int32, z = upd f_1 (8 + g * 13 + 3) 0 := ⟨_, rfl⟩
  have hP : va_P D vwCl [(h, .inr (0, [.ref r])), (r, .inl (cI, 86, .inl f_2))] H := by rw [ef_2]; exact hP
  have hD : va_D A [(h, .inr (0, [.ref r])), (r, .inl (cI, 86, .inl f_2))] := by rw [ef_2]; exact hD
  refine lv_aload_n (pc := 32) hx hb dX0_free_32 rfl (lv_at hl 2 rfl) ?_
  refine lv_iload_n (pc := 33) hx hb dX0_free_33 rfl (lv_at hl 1 rfl) ?_
  refine b_cV (pc := 34) (w1 := [(h, .inr (0, [.ref r])), (r, .inl (cI, 86, .inl (h_end f_2 (8 + g * 13))))]) (va_runV (As := [.int (nI (8 + g * 13))]) (rest := []) ⟨hx, hb, hml, hown, hts⟩ (c_X0_end l D cI cC cZ cG tb lo hi H.size h r f_2 (8 + g * 13) (by omega)) (cwV 1 hts gX0_free_X0_end rfl rfl rfl hy_X0_end ⟨Nat.le_of_ble_eq_true rfl, Nat.le_of_ble_eq_true rfl⟩) (b_pWV (wc := [(h, .inr (0, [.ref r])), (r, .inl (cI, 86, .inl f_2))]) hK hP hD (b_Xok_X tb lo hi) [0, 1] rfl (by decide) rfl (b_Xc hX hD hS hA [0, 1] rfl) (ci := 0) (q0 := 0) rfl rfl) rfl rfl hl.1 rfl (lv_room (Nat.le_of_ble_eq_true rfl)) dX0_free_34 ⟨Nat.zero_le _, Nat.zero_le _⟩) hP hD hS hA [0, 1] rfl rfl (fun H locs hP hD hS => ?_)
  have hP : va_P D vwCl [(h, .inr (0, [.ref r])), (r, .inl (cI, 86, .inl (h_end f_2 (8 + g * 13))))] H := hP
  have hD : va_D A [(h, .inr (0, [.ref r])), (r, .inl (cI, 86, .inl (h_end f_2 (8 + g * 13))))] := hD
  refine lv_iload_n (pc := 37) hx hb dX0_free_37 rfl (lv_at hl 0 rfl) ?_
  subst ef_1
  subst ef_2
  subst hQ
  exact b_retW hx hb hr hlocks hS (by first | rfl | (simp only [h_free])) (by first | exact hP | (refine (b_eqP ?_ hP); simp only [h_free])) dX0_free_38
