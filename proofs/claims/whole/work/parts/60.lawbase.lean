/-! the law: its calls, case by case -/
abbrev lw_z (x y : Int32) : Int64 := (x.toInt64 <<< ((32 : Int32).toInt64 &&& 63)) ||| (y.toInt64 &&& 4294967295)
theorem cs_k (x : Int32) (k : Nat) (hk : k < 2 ^ 31) : (x < 0 ∨ ¬ x < nI k) ∨ ∃ j : Nat, j < k ∧ x = nI j := by
  rcases pk_ix x hk with h | h | ⟨j, h1, h2⟩
  · exact Or.inl (Or.inl h)
  · exact Or.inl (Or.inr (Int32.not_lt.mpr h))
  · exact Or.inr ⟨j, h1, h2⟩
theorem cs_set (x y : Int32) : p_n3 x ∨ (∃ s1 : Nat, s1 < 3 ∧ x = nI s1 ∧ (y < b_lo s1 ∨ ¬ y ≤ b_hi s1)) ∨ ∃ s1 : Nat, s1 < 3 ∧ x = nI s1 ∧ (¬ y < b_lo s1) ∧ y ≤ b_hi s1 := by
  rcases cs_k x 3 (by omega) with h | ⟨j, h1, h2⟩
  · exact Or.inl h
  · by_cases c1 : y < b_lo j
    · exact Or.inr (Or.inl ⟨j, h1, h2, Or.inl c1⟩)
    · by_cases c2 : y ≤ b_hi j
      · exact Or.inr (Or.inr ⟨j, h1, h2, c1, c2⟩)
      · exact Or.inr (Or.inl ⟨j, h1, h2, Or.inr c2⟩)
theorem cs_two (x y : Int32) (k : Nat) (hk : k < 2 ^ 31) : p_ng x ∨ (∃ g : Nat, g < 6 ∧ x = nI g ∧ (y < 0 ∨ ¬ y < nI k)) ∨ ∃ g w1 : Nat, g < 6 ∧ x = nI g ∧ w1 < k ∧ y = nI w1 := by
  rcases cs_k x 6 (by omega) with h | ⟨g, h1, h2⟩
  · exact Or.inl h
  · rcases cs_k y k hk with h | ⟨w1, h3, h4⟩
    · exact Or.inr (Or.inl ⟨g, h1, h2, h⟩)
    · exact Or.inr (Or.inr ⟨g, w1, h1, h2, h3, h4⟩)
theorem cs_pass (f : Nat → Int32) (x : Int32) : (x < 1 ∨ ¬ x ≤ 999) ∨ ((¬ x < 1) ∧ x ≤ 999 ∧ 99999 < f 3 + x) ∨ ((¬ x < 1) ∧ x ≤ 999 ∧ ¬ 99999 < f 3 + x) := by
  by_cases c1 : x < 1
  · exact Or.inl (Or.inl c1)
  · by_cases c2 : x ≤ 999
    · by_cases c3 : 99999 < f 3 + x
      · exact Or.inr (Or.inl ⟨c1, c2, c3⟩)
      · exact Or.inr (Or.inr ⟨c1, c2, c3⟩)
    · exact Or.inl (Or.inr c2)
theorem cs_cor (x : Int32) : (x < 0 ∨ ¬ x ≤ 999) ∨ ((¬ x < 0) ∧ x ≤ 999) := by
  by_cases c1 : x < 0
  · exact Or.inl (Or.inl c1)
  · by_cases c2 : x ≤ 999
    · exact Or.inr ⟨c1, c2⟩
    · exact Or.inl (Or.inr c2)
theorem cs_g (x : Int32) : p_ng x ∨ ∃ g : Nat, g < 6 ∧ x = nI g := cs_k x 6 (by omega)
theorem cs_clear (f : Nat → Int32) (x : Int32) : p_ng x ∨ (∃ g : Nat, g < 6 ∧ x = nI g ∧ f (8 + g * 13 + 0) = 0) ∨ ∃ g : Nat, g < 6 ∧ x = nI g ∧ ¬ f (8 + g * 13 + 0) = 0 := by
  rcases cs_g x with h | ⟨g, h1, h2⟩
  · exact Or.inl h
  · by_cases c : f (8 + g * 13 + 0) = 0
    · exact Or.inr (Or.inl ⟨g, h1, h2, c⟩)
    · exact Or.inr (Or.inr ⟨g, h1, h2, c⟩)
theorem cs_count (x : Int32) : (x < 0 ∨ ¬ x < 18) ∨ (∃ w1 : Nat, w1 < 8 ∧ x = nI w1) ∨ (∃ w1 : Nat, (8 ≤ w1 ∧ w1 < 14) ∧ x = nI w1) ∨ x = nI 14 ∨ x = nI 15 ∨ x = nI 16 ∨ x = nI 17 := by
  rcases cs_k x 18 (by omega) with h | ⟨j, h1, h2⟩
  · exact Or.inl h
  · refine Or.inr ?_
    by_cases c : j < 8
    · exact Or.inl ⟨j, c, h2⟩
    · refine Or.inr ?_
      by_cases c2 : j < 14
      · exact Or.inl ⟨j, ⟨by omega, c2⟩, h2⟩
      · refine Or.inr ?_
        rcases (show j = 14 ∨ j = 15 ∨ j = 16 ∨ j = 17 by omega) with z | z | z | z <;> subst z
        · exact Or.inl h2
        · exact Or.inr (Or.inl h2)
        · exact Or.inr (Or.inr (Or.inl h2))
        · exact Or.inr (Or.inr (Or.inr h2))
theorem cs_if (q : Prop) (x : Int32) : (¬ q) ∨ (q ∧ (x < 0 ∨ ¬ x < 6)) ∨ (q ∧ x = nI 0) ∨ (q ∧ x = nI 1) ∨ (q ∧ x = nI 2) ∨ (q ∧ x = nI 3) ∨ (q ∧ x = nI 4) ∨ (q ∧ x = nI 5) := by
  rcases Classical.em q with hq | hq
  case inr => exact Or.inl hq
  refine Or.inr ?_
  rcases cs_k x 6 (by omega) with h | ⟨j, h1, h2⟩
  · exact Or.inl ⟨hq, h⟩
  · refine Or.inr ?_
    rcases (show j = 0 ∨ j = 1 ∨ j = 2 ∨ j = 3 ∨ j = 4 ∨ j = 5 by omega) with z | z | z | z | z | z <;> subst z
    · exact Or.inl ⟨hq, h2⟩
    · exact Or.inr (Or.inl ⟨hq, h2⟩)
    · exact Or.inr (Or.inr (Or.inl ⟨hq, h2⟩))
    · exact Or.inr (Or.inr (Or.inr (Or.inl ⟨hq, h2⟩)))
    · exact Or.inr (Or.inr (Or.inr (Or.inr (Or.inl ⟨hq, h2⟩))))
    · exact Or.inr (Or.inr (Or.inr (Or.inr (Or.inr ⟨hq, h2⟩))))
theorem cs_ev (f : Nat → Int32) (x y : Int32) : p_ng x ∨ (∃ g : Nat, g < 6 ∧ x = nI g ∧ (y < 0 ∨ ¬ y < 3)) ∨ (∃ g w1 : Nat, g < 6 ∧ x = nI g ∧ w1 < 3 ∧ y = nI w1 ∧ (f (8 + g * 13 + 0) = 0 ∨ f (8 + g * 13 + 3) = 0)) ∨ (∃ g : Nat, g < 6 ∧ x = nI g ∧ y = nI 0 ∧ (¬ f (8 + g * 13 + 0) = 0) ∧ ¬ f (8 + g * 13 + 3) = 0) ∨ (∃ g : Nat, g < 6 ∧ x = nI g ∧ y = nI 1 ∧ (¬ f (8 + g * 13 + 0) = 0) ∧ ¬ f (8 + g * 13 + 3) = 0) ∨ (∃ g : Nat, g < 6 ∧ x = nI g ∧ y = nI 2 ∧ (¬ f (8 + g * 13 + 0) = 0) ∧ ¬ f (8 + g * 13 + 3) = 0) := by
  rcases cs_two x y 3 (by omega) with h | ⟨g, h1, h2, h3⟩ | ⟨g, w1, h1, h2, h3, h4⟩
  · exact Or.inl h
  · exact Or.inr (Or.inl ⟨g, h1, h2, h3⟩)
  · refine Or.inr (Or.inr ?_)
    by_cases c1 : f (8 + g * 13 + 0) = 0
    · exact Or.inl ⟨g, w1, h1, h2, h3, h4, Or.inl c1⟩
    · by_cases c2 : f (8 + g * 13 + 3) = 0
      · exact Or.inl ⟨g, w1, h1, h2, h3, h4, Or.inr c2⟩
      · refine Or.inr ?_
        rcases (show w1 = 0 ∨ w1 = 1 ∨ w1 = 2 by omega) with z | z | z <;> subst z
        · exact Or.inl ⟨g, h1, h2, h4, c1, c2⟩
        · exact Or.inr (Or.inl ⟨g, h1, h2, h4, c1, c2⟩)
        · exact Or.inr (Or.inr ⟨g, h1, h2, h4, c1, c2⟩)
theorem cs_put (z : Int64) (n : Nat) : ((¬ 1 ≤ p_num z 8 0) ∧ m_ch 8 z 0 = 0) ∨ (∃ k : Nat, (1 ≤ k ∧ k ≤ 8) ∧ p_num z 8 0 = nI k ∧ m_ch 8 z 0 = nI k ∧ 60 < n + k) ∨ ∃ k : Nat, (1 ≤ k ∧ k ≤ 8) ∧ p_num z 8 0 = nI k ∧ m_ch 8 z 0 = nI k ∧ n + k ≤ 60 := by
  rcases e_chars z with h | ⟨k, h1, h2, h3⟩
  · exact Or.inl h
  · rcases Nat.lt_or_ge 60 (n + k) with c | c
    · exact Or.inr (Or.inl ⟨k, h1, h2, h3, c⟩)
    · exact Or.inr (Or.inr ⟨k, h1, h2, h3, c⟩)
theorem cs_rest (sv : Nat → Int32) (x : Int32) : (x < 0 ∨ ¬ x < 2) ∨ (∃ w1 : Nat, w1 < 2 ∧ x = nI w1 ∧ sv w1 = 0) ∨ ∃ w1 : Nat, w1 < 2 ∧ x = nI w1 ∧ ¬ sv w1 = 0 := by
  rcases cs_k x 2 (by omega) with h | ⟨w1, h1, h2⟩
  · exact Or.inl h
  · by_cases c : sv w1 = 0
    · exact Or.inr (Or.inl ⟨w1, h1, h2, c⟩)
    · exact Or.inr (Or.inr ⟨w1, h1, h2, c⟩)
theorem e_pass {N : Nat} {f a : Nat → Int32} {x : Int32} (hR : Row N f a) (h1 : ¬ x < 1) (h2 : x ≤ 999) (h3 : ¬ 99999 < f 3 + x) : Row N (h_goBy f x) (upd a 3 (a 3 + x)) := by
  have ht := hR.1.2.2.1
  rw [i_lt, i_1] at h1
  rw [i_le, show (999 : Int32).toInt = 999 from by decide] at h2
  have es : (f 3 + x).toInt = (f 3).toInt + x.toInt := i_add (by omega) (by omega)
  rw [i_lt, i_big, es] at h3
  rw [hR.1.get (w := 3) (by omega)]
  unfold h_goBy
  exact e_now hR (by rw [es]; omega) (by rw [es]; omega)
theorem e_sub {x1 x2 y1 y2 : Int32} (h1 : x1 = x2) (h2 : y1 = y2) : x1 - y1 = x2 - y2 := by rw [h1, h2]
theorem e_np {N : Nat} {f a : Nat → Int32} {g : Nat} (hR : Row N f a) (hg : g < 6) (h : f (8 + g * 13 + 0) = 0 ∨ f (8 + g * 13 + 3) = 0) : a (8 + 13 * g + 1) = (-6) ∨ a (8 + 13 * g + 3) = 0 := by
  by_cases c : f (8 + g * 13 + 0) = 0
  · exact Or.inl ((hR.uw hg).mp c)
  · refine Or.inr ?_
    rw [(hR.under hg c).2.2.1]
    exact h.elim (fun z => absurd z c) id
section LWS
variable {p : Program} {l : Launch} {e : Env} {s : State} {m : MethodId} {below : List Frame} {meth : Method} {c : Code} {H : Heap} {locs : List Loc} {cells slots : Nat} {Q : State → Prop} {R : Room} {args : Array Value}
theorem b_sld {A : Nat → Prop} {H0 : Heap} {cc : ByteArray} {pc : Nat} {ls : Array Slot} {rest : List Value} (hexec : p.tables.exec = Jvm.exec) (hb : c.code = cc) {b L : Nat} {xs : Nat → Int32} (hX : va_X b L xs s H0) (hbl : b < H0.size) (hbA : ¬ A b) (hS : va_S A H0 H locs) (k : Nat) (hk : k < L) (hL : L < 2 ^ 31) (hdg : decode cc pc = .ok (.iaload, 1))
    (kk : W p l e R s m args below meth c H locs cells slots Q (F0 m (pc + 1) ls (.int (xs k) :: rest))) : W p l e R s m args below meth c H locs cells slots Q (F0 m pc ls (.int (nI k) :: .ref b :: rest)) := by
  refine va_sld hexec hb hX hbl hbA hS (vp_in_nI hk hL) hdg ?_
  rw [nI_clamp (Nat.lt_trans hk hL)]
  exact kk
theorem b_put_x : ∀ (w1 pre wc wr : va_W), w1.length = wc.length → b_put (pre ++ wc ++ wr) (List.range' pre.length wc.length) w1 = pre ++ w1 ++ wr
  | [], pre, [], wr, _ => rfl
  | [], _, _ :: _, _, h => by cases h
  | _ :: _, _, [], _, h => by cases h
  | x :: w1, pre, y :: wc, wr, h => by
    have e1 : List.range' pre.length (y :: wc).length = pre.length :: List.range' (pre.length + 1) wc.length := rfl
    rw [e1]
    show b_put ((pre ++ (y :: wc) ++ wr).set pre.length x) (List.range' (pre.length + 1) wc.length) w1 = _
    have e2 : (pre ++ (y :: wc) ++ wr).set pre.length x = (pre ++ [x]) ++ wc ++ wr := by
      rw [List.append_assoc, List.set_append_right _ _ (Nat.le_refl _), Nat.sub_self]
      simp
    have e3 : pre.length + 1 = (pre ++ [x]).length := by simp
    rw [e2, e3, b_put_x w1 (pre ++ [x]) wc wr (Nat.succ.inj h)]
    simp
theorem b_get_x : ∀ (pre wc wr : va_W), (List.range' pre.length wc.length).map (fun i => (pre ++ wc ++ wr)[i]?) = wc.map some
  | pre, [], wr => rfl
  | pre, y :: wc, wr => by
    have e1 : List.range' pre.length (y :: wc).length = pre.length :: List.range' (pre.length + 1) wc.length := rfl
    have e2 : pre ++ (y :: wc) ++ wr = (pre ++ [y]) ++ wc ++ wr := by simp
    have e3 : pre.length + 1 = (pre ++ [y]).length := by simp
    rw [e1, List.map_cons, List.map_cons]
    have h0 : (pre ++ (y :: wc) ++ wr)[pre.length]? = some y := by simp
    rw [h0]
    congr 1
    rw [e2, e3]
    exact b_get_x (pre ++ [y]) wc wr
theorem b_cWx {v : Int32} {av : Array Value} {D : va_G} {A0 : Nat → Prop} {H0 : Heap} {pc : Nat} {ls : Array Slot} {rest st0 : List Value} {pre wc wr w1 : va_W} (hr : va_Run p l e R s m args below meth c H locs cells slots 0 0 (F0 m pc ls st0) rest (b_Qi D v w1 (va_A wc H.size) av) (va_A wc H.size)) (hP : va_P D vwCl (pre ++ wc ++ wr) H) (hD : va_D A0 (pre ++ wc ++ wr)) (hS : va_S A0 H0 H locs) (hA : ∀ q, H0.size ≤ q → A0 q) (hw : w1.map (fun q => q.1) = wc.map (fun q => q.1))
    (kk : ∀ (H1 : Heap) (locs1 : List Loc), va_P D vwCl (pre ++ w1 ++ wr) H1 → va_D A0 (pre ++ w1 ++ wr) → va_S A0 H0 H1 locs1 → W p l e R s m args below meth c H1 locs1 cells slots Q (F0 m (pc + 3) ls (.int v :: rest))) : W p l e R s m args below meth c H locs cells slots Q (F0 m pc ls st0) := by
  have hlen : w1.length = wc.length := by have := congrArg List.length hw; simpa using this
  have e := b_put_x w1 pre wc wr hlen
  refine b_cW hr hP hD hS hA (List.range' pre.length wc.length) (b_get_x pre wc wr) hw (fun H1 locs1 h1 h2 h3 => ?_)
  rw [e] at h1 h2
  exact kk H1 locs1 h1 h2 h3
end LWS
def lw_C (p : Program) (s : State) (m : MethodId) (meth : Method) (c : Code) (D : va_G) (cI cC cZ cG : ClassId) (A : Nat → Prop) (tb lo hi b L : Nat) (xs : Nat → Int32) : Prop :=
  p.tables.exec = Jvm.exec ∧ c.code = cL_law ∧ c.maxLocals = 4 ∧ s.vm.findClass RL = some m.cls ∧ (∀ w ∈ wsL_law, w.before #[Value.ref b] s = true) ∧ va_X b L xs s s.heap ∧ b < s.heap.size ∧ (¬ A b) ∧ (∀ q, s.heap.size ≤ q → A q) ∧ va_K D vwCl (b_T cI cC cZ cG) s ∧ b_X tb lo hi A s s.heap
abbrev lw_W (cI cC cZ cG : ClassId) (ad md : Nat → Nat) (f f2 tx : Nat → Int32) (n nx sn : Nat) (R SL : Nat → Nat → Int32) (sv a kp hs sl iv : Nat → Int32) (sp : Nat) (nu : Int32) : va_W := [((ad 0), .inr (3, [.ref (ad 1), .ref (ad 3), .ref (ad 5), .ref (ad 7), .ref (ad 15), .ref (ad 18)])), ((ad 1), .inr (0, [.ref (ad 2)])), ((ad 2), .inl (cI, 86, .inl f)), ((ad 3), .inr (0, [.ref (ad 4)])), ((ad 4), .inl (cI, 86, .inl f2)), ((ad 5), .inr (2, [.ref (ad 6), .int (nI n)])), ((ad 6), .inl (cC, 60, .inl tx)), ((ad 7), .inr (1, [.ref (ad 8), .int (nI nx), .int (nI sn)])), ((ad 8), .inl (cG, 6, .inr (.inr (.inr (.inr (fun i => ([(ad 9), (ad 10), (ad 11), (ad 12), (ad 13), (ad 14)] : List Nat)[i]?)))))), ((ad 9), .inl (cI, 86, .inl (R 0))), ((ad 10), .inl (cI, 86, .inl (R 1))), ((ad 11), .inl (cI, 86, .inl (R 2))), ((ad 12), .inl (cI, 86, .inl (R 3))), ((ad 13), .inl (cI, 86, .inl (R 4))), ((ad 14), .inl (cI, 86, .inl (R 5))), ((ad 15), .inl (cG, 2, .inr (.inr (.inr (.inr (fun i => ([(ad 16), (ad 17)] : List Nat)[i]?)))))), ((ad 16), .inl (cI, 86, .inl (SL 0))), ((ad 17), .inl (cI, 86, .inl (SL 1))), ((ad 18), .inl (cZ, 2, .inl sv)), ((md 0), .inr (4, [.ref (md 1), .ref (md 2), .ref (md 3), .int (nI sn), .ref (md 4), .ref (md 5), .ref (md 6), .int (nI n), .int (nI sp), .int nu])), ((md 1), .inl (cI, 86, .inl a)), ((md 2), .inl (cI, 86, .inl kp)), ((md 3), .inl (cI, 516, .inl hs)), ((md 4), .inl (cI, 172, .inl sl)), ((md 5), .inl (cI, 2, .inl iv)), ((md 6), .inl (cI, 60, .inl tx))]
abbrev lw_KK (p : Program) (l : Launch) (e : Env) (s : State) (m : MethodId) (below : List Frame) (meth : Method) (c : Code) (D : va_G) (cI cC cZ cG : ClassId) (A : Nat → Prop) (b : Nat) (ad md : Nat → Nat) (i M pc : Nat) : Prop := ∀ (f f2 tx : Nat → Int32) (n nx sn : Nat) (R SL : Nat → Nat → Int32) (sv a kp hs sl iv : Nat → Int32) (sp : Nat) (nu : Int32), Big M f n nx sn R SL sv a hs sl iv → ∀ (H : Heap) (locs : List Loc), va_P D vwCl [((ad 0), .inr (3, [.ref (ad 1), .ref (ad 3), .ref (ad 5), .ref (ad 7), .ref (ad 15), .ref (ad 18)])), ((ad 1), .inr (0, [.ref (ad 2)])), ((ad 2), .inl (cI, 86, .inl f)), ((ad 3), .inr (0, [.ref (ad 4)])), ((ad 4), .inl (cI, 86, .inl f2)), ((ad 5), .inr (2, [.ref (ad 6), .int (nI n)])), ((ad 6), .inl (cC, 60, .inl tx)), ((ad 7), .inr (1, [.ref (ad 8), .int (nI nx), .int (nI sn)])), ((ad 8), .inl (cG, 6, .inr (.inr (.inr (.inr (fun i => ([(ad 9), (ad 10), (ad 11), (ad 12), (ad 13), (ad 14)] : List Nat)[i]?)))))), ((ad 9), .inl (cI, 86, .inl (R 0))), ((ad 10), .inl (cI, 86, .inl (R 1))), ((ad 11), .inl (cI, 86, .inl (R 2))), ((ad 12), .inl (cI, 86, .inl (R 3))), ((ad 13), .inl (cI, 86, .inl (R 4))), ((ad 14), .inl (cI, 86, .inl (R 5))), ((ad 15), .inl (cG, 2, .inr (.inr (.inr (.inr (fun i => ([(ad 16), (ad 17)] : List Nat)[i]?)))))), ((ad 16), .inl (cI, 86, .inl (SL 0))), ((ad 17), .inl (cI, 86, .inl (SL 1))), ((ad 18), .inl (cZ, 2, .inl sv)), ((md 0), .inr (4, [.ref (md 1), .ref (md 2), .ref (md 3), .int (nI sn), .ref (md 4), .ref (md 5), .ref (md 6), .int (nI n), .int (nI sp), .int nu])), ((md 1), .inl (cI, 86, .inl a)), ((md 2), .inl (cI, 86, .inl kp)), ((md 3), .inl (cI, 516, .inl hs)), ((md 4), .inl (cI, 172, .inl sl)), ((md 5), .inl (cI, 2, .inl iv)), ((md 6), .inl (cI, 60, .inl tx))] H → va_D A [((ad 0), .inr (3, [.ref (ad 1), .ref (ad 3), .ref (ad 5), .ref (ad 7), .ref (ad 15), .ref (ad 18)])), ((ad 1), .inr (0, [.ref (ad 2)])), ((ad 2), .inl (cI, 86, .inl f)), ((ad 3), .inr (0, [.ref (ad 4)])), ((ad 4), .inl (cI, 86, .inl f2)), ((ad 5), .inr (2, [.ref (ad 6), .int (nI n)])), ((ad 6), .inl (cC, 60, .inl tx)), ((ad 7), .inr (1, [.ref (ad 8), .int (nI nx), .int (nI sn)])), ((ad 8), .inl (cG, 6, .inr (.inr (.inr (.inr (fun i => ([(ad 9), (ad 10), (ad 11), (ad 12), (ad 13), (ad 14)] : List Nat)[i]?)))))), ((ad 9), .inl (cI, 86, .inl (R 0))), ((ad 10), .inl (cI, 86, .inl (R 1))), ((ad 11), .inl (cI, 86, .inl (R 2))), ((ad 12), .inl (cI, 86, .inl (R 3))), ((ad 13), .inl (cI, 86, .inl (R 4))), ((ad 14), .inl (cI, 86, .inl (R 5))), ((ad 15), .inl (cG, 2, .inr (.inr (.inr (.inr (fun i => ([(ad 16), (ad 17)] : List Nat)[i]?)))))), ((ad 16), .inl (cI, 86, .inl (SL 0))), ((ad 17), .inl (cI, 86, .inl (SL 1))), ((ad 18), .inl (cZ, 2, .inl sv)), ((md 0), .inr (4, [.ref (md 1), .ref (md 2), .ref (md 3), .int (nI sn), .ref (md 4), .ref (md 5), .ref (md 6), .int (nI n), .int (nI sp), .int nu])), ((md 1), .inl (cI, 86, .inl a)), ((md 2), .inl (cI, 86, .inl kp)), ((md 3), .inl (cI, 516, .inl hs)), ((md 4), .inl (cI, 172, .inl sl)), ((md 5), .inl (cI, 2, .inl iv)), ((md 6), .inl (cI, 60, .inl tx))] → va_S A s.heap H locs → ∀ (ls : Array Slot), lv_has ls 4 [(0, .ref b), (1, .ref (ad 0)), (2, .ref (md 0)), (3, .int (nI i))] → W p l e room_1 s m #[Value.ref b] below meth c H locs 600000 7302250 (lw_Z below #[Value.ref b] s) (F0 m pc ls [])
