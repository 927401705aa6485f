/-! calls of the law: worlds side by side -/
theorem b_PL {D : va_G} {cl : List vw_C} {a b : va_W} {H : Heap} (h : va_P D cl (a ++ b) H) : va_P D cl a H := fun k q hk => h k q (by rw [List.getElem?_append_left (List.getElem?_eq_some_iff.mp hk).1]; exact hk)
theorem b_PR {D : va_G} {cl : List vw_C} {a b : va_W} {H : Heap} (h : va_P D cl (a ++ b) H) : va_P D cl b H := fun k q hk => h (a.length + k) q (by rw [List.getElem?_append_right (Nat.le_add_right _ _), Nat.add_sub_cancel_left]; exact hk)
theorem b_DL {A : Nat → Prop} {a b : va_W} (h : va_D A (a ++ b)) : va_D A a :=
  ⟨fun i j p q hi hj e => h.1 i j p q (by rw [List.getElem?_append_left (List.getElem?_eq_some_iff.mp hi).1]; exact hi) (by rw [List.getElem?_append_left (List.getElem?_eq_some_iff.mp hj).1]; exact hj) e, fun k q hk => h.2 k q (by rw [List.getElem?_append_left (List.getElem?_eq_some_iff.mp hk).1]; exact hk)⟩
theorem b_DR {A : Nat → Prop} {a b : va_W} (h : va_D A (a ++ b)) : va_D A b :=
  ⟨fun i j p q hi hj e => by
    have := h.1 (a.length + i) (a.length + j) p q (by rw [List.getElem?_append_right (Nat.le_add_right _ _), Nat.add_sub_cancel_left]; exact hi) (by rw [List.getElem?_append_right (Nat.le_add_right _ _), Nat.add_sub_cancel_left]; exact hj) e
    omega, fun k q hk => h.2 (a.length + k) q (by rw [List.getElem?_append_right (Nat.le_add_right _ _), Nat.add_sub_cancel_left]; exact hk)⟩
theorem b_fr {A0 : Nat → Prop} {H0 H : Heap} {locs : List Loc} {wc : va_W} (hD : va_D A0 wc) (hS : va_S A0 H0 H locs) (hA : ∀ q, H0.size ≤ q → A0 q) : ∀ q, va_A wc H.size q → A0 q := fun q h => by
  rcases h with ⟨k, e, hk⟩ | h
  · exact hD.2 k (q, e) hk
  · exact hA q (Nat.le_trans hS.1 h)
section LC
variable {p : Program} {l : Launch} {e : Env} {R : Room} {s : State} {m : MethodId} {args : Array Value} {below : List Frame} {meth : Method} {c : Code} {H : Heap} {locs : List Loc} {cells slots : Nat} {Q : State → Prop}
variable {pc : Nat} {ls : Array Slot} {rest st0 : List Value} {D : va_G} {A0 : Nat → Prop} {tys : List (ClassId × FieldType)} {wc w1 pre wr : va_W} {H0 : Heap} {X : (Nat → Prop) → State → Heap → Prop}
variable {b : Nat} {As : List Value}
theorem b_Xc0 {tb lo hi : Nat} (hX : b_X tb lo hi A0 s s.heap) (hD : va_D A0 wc) (hS : va_S A0 s.heap H locs) (hA : ∀ q, s.heap.size ≤ q → A0 q) : b_X tb lo hi (va_A wc H.size) s H := (hX.kept hS.2.1).narrow (b_fr hD hS hA)
theorem b_pRc (hK : va_K D vwCl tys s) (hP : va_P D vwCl wc H) {fs : List Value} (he : wc[0]? = some (b, .inr (3, fs))) : PreV s H RX3 b (b_R D tys wc (.ref b :: As)) As :=
  ⟨b_R_blind D tys wc _, va_recv (q := (RX3, TX3, 6)) (ci := 3) hK hP rfl he, fun U hU hW => ⟨rfl, by rw [hU]; exact hP, va_K.moved hW.alike hK⟩⟩
theorem b_pRs (hK : va_K D vwCl tys s) (hP : va_P D vwCl wc H) : PreS s H (b_R D tys wc As) As :=
  ⟨b_R_blind D tys wc _, fun U hU hW => ⟨rfl, by rw [hU]; exact hP, va_K.moved hW.alike hK⟩⟩
theorem b_pWc (hK : va_K D vwCl tys s) (hP : va_P D vwCl wc H) (hD : va_D A0 wc) (hXo : b_Xok X) (hX : X (va_A wc H.size) s H) {fs : List Value} (he : wc[0]? = some (b, .inr (3, fs))) : PreV s H RX3 b (b_W D tys X wc H.size (.ref b :: As)) As :=
  ⟨b_W_blind D tys hXo wc _ _, va_recv (q := (RX3, TX3, 6)) (ci := 3) hK hP rfl he, fun U hU hW => ⟨rfl, by rw [hU], by rw [hU]; exact hP, va_K.moved hW.alike hK, hD.weaken (fun _ _ _ _ => trivial), by rw [hU]; exact hXo.2 _ _ _ _ hW hX⟩⟩
theorem b_pWs (hK : va_K D vwCl tys s) (hP : va_P D vwCl wc H) (hD : va_D A0 wc) (hXo : b_Xok X) (hX : X (va_A wc H.size) s H) : PreS s H (b_W D tys X wc H.size As) As :=
  ⟨b_W_blind D tys hXo wc _ _, fun U hU hW => ⟨rfl, by rw [hU], by rw [hU]; exact hP, va_K.moved hW.alike hK, hD.weaken (fun _ _ _ _ => trivial), by rw [hU]; exact hXo.2 _ _ _ _ hW hX⟩⟩
theorem b_put_x : ∀ (w1 pre wc wr : va_W), w1.length = wc.length → b_put (pre ++ wc ++ wr) (List.range' pre.length wc.length) w1 = pre ++ w1 ++ wr
  | [], pre, [], wr, _ => rfl
  | [], _, _ :: _, _, h => by cases h
  | _ :: _, _, [], _, h => by cases h
  | x :: w1, pre, y :: wc, wr, h => by
    have e1 : List.range' pre.length (y :: wc).length = pre.length :: List.range' (pre.length + 1) wc.length := rfl
    rw [e1]
    show b_put ((pre ++ (y :: wc) ++ wr).set pre.length x) (List.range' (pre.length + 1) wc.length) w1 = _
    have e2 : (pre ++ (y :: wc) ++ wr).set pre.length x = (pre ++ [x]) ++ wc ++ wr := by
      rw [List.append_assoc, List.set_append_right _ _ (Nat.le_refl _), Nat.sub_self]
      simp
    have e3 : pre.length + 1 = (pre ++ [x]).length := by simp
    rw [e2, e3, b_put_x w1 (pre ++ [x]) wc wr (Nat.succ.inj h)]
    simp
theorem b_get_x : ∀ (pre wc wr : va_W), (List.range' pre.length wc.length).map (fun i => (pre ++ wc ++ wr)[i]?) = wc.map some
  | pre, [], wr => rfl
  | pre, y :: wc, wr => by
    have e1 : List.range' pre.length (y :: wc).length = pre.length :: List.range' (pre.length + 1) wc.length := rfl
    have e2 : pre ++ (y :: wc) ++ wr = (pre ++ [y]) ++ wc ++ wr := by simp
    have e3 : pre.length + 1 = (pre ++ [y]).length := by simp
    rw [e1, List.map_cons, List.map_cons]
    have h0 : (pre ++ (y :: wc) ++ wr)[pre.length]? = some y := by simp
    rw [h0]
    congr 1
    rw [e2, e3]
    exact b_get_x (pre ++ [y]) wc wr
theorem b_cWx {v : Int32} {av : Array Value} (hr : va_Run p l e R s m args below meth c H locs cells slots 0 0 (F0 m pc ls st0) rest (b_Qi D v w1 (va_A wc H.size) av) (va_A wc H.size)) (hP : va_P D vwCl (pre ++ wc ++ wr) H) (hD : va_D A0 (pre ++ wc ++ wr)) (hS : va_S A0 H0 H locs) (hA : ∀ q, H0.size ≤ q → A0 q) (hw : w1.map (fun q => q.1) = wc.map (fun q => q.1))
    (kk : ∀ (H1 : Heap) (locs1 : List Loc), va_P D vwCl (pre ++ w1 ++ wr) H1 → va_D A0 (pre ++ w1 ++ wr) → va_S A0 H0 H1 locs1 → W p l e R s m args below meth c H1 locs1 cells slots Q (F0 m (pc + 3) ls (.int v :: rest))) : W p l e R s m args below meth c H locs cells slots Q (F0 m pc ls st0) := by
  have hlen : w1.length = wc.length := by have := congrArg List.length hw; simpa using this
  have e := b_put_x w1 pre wc wr hlen
  refine b_cW hr hP hD hS hA (List.range' pre.length wc.length) (b_get_x pre wc wr) hw (fun H1 locs1 h1 h2 h3 => ?_)
  rw [e] at h1 h2
  exact kk H1 locs1 h1 h2 h3
theorem b_cWl {v : Int32} {av : Array Value} (hr : va_Run p l e R s m args below meth c H locs cells slots 0 0 (F0 m pc ls st0) rest (b_Qi D v w1 (va_A wc H.size) av) (va_A wc H.size)) (hP : va_P D vwCl (wc ++ wr) H) (hD : va_D A0 (wc ++ wr)) (hS : va_S A0 H0 H locs) (hA : ∀ q, H0.size ≤ q → A0 q) (hw : w1.map (fun q => q.1) = wc.map (fun q => q.1))
    (kk : ∀ (H1 : Heap) (locs1 : List Loc), va_P D vwCl (w1 ++ wr) H1 → va_D A0 (w1 ++ wr) → va_S A0 H0 H1 locs1 → W p l e R s m args below meth c H1 locs1 cells slots Q (F0 m (pc + 3) ls (.int v :: rest))) : W p l e R s m args below meth c H locs cells slots Q (F0 m pc ls st0) :=
  b_cWx (pre := []) (wr := wr) hr hP hD hS hA hw kk
theorem b_cWr {v : Int32} {av : Array Value} (hr : va_Run p l e R s m args below meth c H locs cells slots 0 0 (F0 m pc ls st0) rest (b_Qi D v w1 (va_A wc H.size) av) (va_A wc H.size)) (hP : va_P D vwCl (pre ++ wc) H) (hD : va_D A0 (pre ++ wc)) (hS : va_S A0 H0 H locs) (hA : ∀ q, H0.size ≤ q → A0 q) (hw : w1.map (fun q => q.1) = wc.map (fun q => q.1))
    (kk : ∀ (H1 : Heap) (locs1 : List Loc), va_P D vwCl (pre ++ w1) H1 → va_D A0 (pre ++ w1) → va_S A0 H0 H1 locs1 → W p l e R s m args below meth c H1 locs1 cells slots Q (F0 m (pc + 3) ls (.int v :: rest))) : W p l e R s m args below meth c H locs cells slots Q (F0 m pc ls st0) := by
  refine b_cWx (pre := pre) (wr := []) hr (by rw [List.append_nil]; exact hP) (by rw [List.append_nil]; exact hD) hS hA hw (fun H1 locs1 h1 h2 h3 => ?_)
  rw [List.append_nil] at h1 h2
  exact kk H1 locs1 h1 h2 h3
theorem b_cW0 {v : Int32} {av : Array Value} (hr : va_Run p l e R s m args below meth c H locs cells slots 0 0 (F0 m pc ls st0) rest (b_Qi D v w1 (va_A wc H.size) av) (va_A wc H.size)) (hP : va_P D vwCl wc H) (hD : va_D A0 wc) (hS : va_S A0 H0 H locs) (hA : ∀ q, H0.size ≤ q → A0 q) (hw : w1.map (fun q => q.1) = wc.map (fun q => q.1))
    (kk : ∀ (H1 : Heap) (locs1 : List Loc), va_P D vwCl w1 H1 → va_D A0 w1 → va_S A0 H0 H1 locs1 → W p l e R s m args below meth c H1 locs1 cells slots Q (F0 m (pc + 3) ls (.int v :: rest))) : W p l e R s m args below meth c H locs cells slots Q (F0 m pc ls st0) :=
  b_cWr (pre := []) hr hP hD hS hA hw kk
end LC
theorem wj_cut {a b : Prop} (h : a) (k : a → b) : b := k h
/-! up -/
def u_up (v : Int32) (n : Nat) : Nat := (v &&& 2147483647).toInt.toNat % n
theorem u_lt (v : Int32) {n : Nat} (h : 0 < n) : u_up v n < n := Nat.mod_lt _ h
theorem up_nn (v : Int32) : ¬ (v &&& 2147483647) < 0 := by
  intro h
  rw [Int32.lt_iff_toInt_lt] at h
  have e : (v &&& 2147483647).toBitVec.msb = true := by
    rw [BitVec.msb_eq_toInt]
    exact decide_eq_true h
  rw [Int32.toBitVec_and, BitVec.msb_and] at e
  have z : (2147483647 : Int32).toBitVec.msb = false := by decide
  rw [z, Bool.and_false] at e
  exact absurd e (by decide)
theorem nI_rem {a n : Nat} (ha : a < 2 ^ 31) (h0 : 0 < n) (hn : n < 2 ^ 31) : nI a - nI a / nI n * nI n = nI (a % n) := by
  have h1 := Nat.div_add_mod a n
  have h2 : a / n * n = n * (a / n) := Nat.mul_comm _ _
  rw [pk_div ha h0 hn, pk_mul, pk_sub (by omega)]
  congr 1
  omega
theorem up_eq (v : Int32) {n : Nat} (h0 : 0 < n) (hn : n < 2 ^ 31) : (v &&& 2147483647) - (v &&& 2147483647) / nI n * nI n = nI (u_up v n) := by
  obtain ⟨j, hj, e⟩ := nI_of (up_nn v)
  unfold u_up
  rw [e, nI_rem hj h0 hn, nI_toInt hj]
  rfl
/-- what is told of a gate from 5 on -/
theorem t_hi (f : Nat → Int32) (g : Nat) {w : Nat} (h : 5 ≤ w) : h_tell f g w = f (8 + g * 13 + w) := by
  unfold h_tell
  rw [if_neg (by omega), if_neg (by omega), if_neg (by omega), if_neg (by omega)]
