/-! base: a world put back by its places; the two shapes of contract; their calls -/
def b_put : va_W → List Nat → va_W → va_W
  | ws, i :: is, x :: xs => b_put (ws.set i x) is xs
  | ws, [], _ => ws
  | ws, _ :: _, [] => ws
theorem b_put_get : ∀ (is : List Nat) (w1 ws : va_W) (k : Nat) (q : Nat × va_E), is.length = w1.length → (b_put ws is w1)[k]? = some q → (∃ j : Nat, is[j]? = some k ∧ w1[j]? = some q) ∨ (k ∉ is ∧ ws[k]? = some q)
  | [], [], _, _, _, _, h => Or.inr ⟨List.not_mem_nil, h⟩
  | [], _ :: _, _, _, _, hl, _ => by cases hl
  | _ :: _, [], _, _, _, hl, _ => by cases hl
  | i :: is, x :: xs, ws, k, q, hl, h => by
    rcases b_put_get is xs (ws.set i x) k q (Nat.succ.inj hl) h with ⟨j, h1, h2⟩ | ⟨h1, h2⟩
    · exact Or.inl ⟨j + 1, h1, h2⟩
    · rw [List.getElem?_set] at h2
      by_cases e : i = k
      · rw [if_pos e] at h2
        split at h2
        · cases h2
          exact Or.inl ⟨0, by rw [e]; rfl, rfl⟩
        · cases h2
      · rw [if_neg e] at h2
        exact Or.inr ⟨fun hm => (List.mem_cons.mp hm).elim (fun z => e z.symm) h1, h2⟩
theorem b_put_addr : ∀ (is : List Nat) (w1 ws : va_W), is.map (fun i => (ws.map (fun q => q.1))[i]?) = w1.map (fun q => some q.1) → (b_put ws is w1).map (fun q => q.1) = ws.map (fun q => q.1)
  | [], [], _, _ => rfl
  | [], _ :: _, _, _ => rfl
  | _ :: _, [], _, _ => rfl
  | i :: is, x :: xs, ws, h => by
    have h0 : (ws.map (fun q => q.1))[i]? = some x.1 := (List.cons.inj h).1
    have h1 : is.map (fun i => (ws.map (fun q => q.1))[i]?) = xs.map (fun q => some q.1) := (List.cons.inj h).2
    have e : (ws.set i x).map (fun q => q.1) = ws.map (fun q => q.1) := by
      rw [List.map_set]
      apply List.ext_getElem?
      intro k
      rw [List.getElem?_set]
      by_cases z : i = k
      · subst z
        rw [if_pos rfl, h0]
        split
        · rfl
        · rename_i hlt
          have := (List.getElem?_eq_some_iff.mp h0).1
          exact absurd this hlt
      · rw [if_neg z]
    have := b_put_addr is xs (ws.set i x) (by rw [e]; exact h1)
    show (b_put (ws.set i x) is xs).map _ = _
    rw [this, e]
theorem b_D_addr {A : Nat → Prop} {w1 w2 : va_W} (h : va_D A w1) (e : w2.map (fun q => q.1) = w1.map (fun q => q.1)) : va_D A w2 := by
  have key : ∀ (i : Nat) (p : Nat × va_E), w2[i]? = some p → ∃ p', w1[i]? = some p' ∧ p'.1 = p.1 := by
    intro i p hi
    have h1 : (w2.map (fun q => q.1))[i]? = some p.1 := by rw [List.getElem?_map, hi]; rfl
    rw [e, List.getElem?_map] at h1
    cases hq : w1[i]? with
    | none => rw [hq] at h1; cases h1
    | some p' => rw [hq] at h1; exact ⟨p', rfl, Option.some.inj h1⟩
  refine ⟨fun i j p q hi hj hpq => ?_, fun k q hk => ?_⟩
  · obtain ⟨p', h1, h2⟩ := key i p hi
    obtain ⟨q', h3, h4⟩ := key j q hj
    exact h.1 i j p' q' h1 h3 (by rw [h2, h4, hpq])
  · obtain ⟨q', h1, h2⟩ := key k q hk
    rw [← h2]
    exact h.2 k q' h1
theorem b_join {A0 : Nat → Prop} {D : va_G} {cl : List vw_C} {ws wc w1 : va_W} {H H1 : Heap} (hP : va_P D cl ws H) (hD : va_D A0 ws) (is : List Nat) (hC : is.map (fun i => ws[i]?) = wc.map some) (hw : w1.map (fun q => q.1) = wc.map (fun q => q.1))
    (hk : ∀ q : Nat, q < H.size → ¬ va_A wc H.size q → H1[q]? = H[q]?) (hP1 : va_P D cl w1 H1) : va_P D cl (b_put ws is w1) H1 ∧ va_D A0 (b_put ws is w1) := by
  have hl1 : is.length = wc.length := by have := congrArg List.length hC; simpa using this
  have hl2 : w1.length = wc.length := by have := congrArg List.length hw; simpa using this
  refine ⟨fun k q hq => ?_, b_D_addr hD (b_put_addr is w1 ws ?_)⟩
  · rcases b_put_get is w1 ws k q (hl1.trans hl2.symm) hq with ⟨j, -, h2⟩ | ⟨h1, h2⟩
    · exact hP1 j q h2
    · refine (hP k q h2).kept (hk q.1 ((hP k q h2).lt) fun hA => ?_)
      rcases hA with ⟨k2, e, h⟩ | h
      · have h3 : (is.map (fun i => ws[i]?))[k2]? = some (some (q.1, e)) := by rw [hC, List.getElem?_map, h]; rfl
        rw [List.getElem?_map] at h3
        cases hi : is[k2]? with
        | none => rw [hi] at h3; cases h3
        | some i =>
          rw [hi] at h3
          have h4 : ws[i]? = some (q.1, e) := Option.some.inj h3
          have := hD.1 k i q (q.1, e) h2 h4 rfl
          subst this
          exact h1 (List.mem_of_getElem? hi)
      · have := (hP k q h2).lt
        omega
  · have e1 : is.map (fun i => (ws.map (fun q => q.1))[i]?) = (is.map (fun i => ws[i]?)).map (fun o => o.map (fun q => q.1)) := by
      rw [List.map_map]
      apply List.map_congr_left
      intro i _
      rw [List.getElem?_map]
      rfl
    rw [e1, hC, List.map_map]
    have e2 : w1.map (fun q => some q.1) = (w1.map (fun q => q.1)).map some := by rw [List.map_map]; rfl
    rw [e2, hw, List.map_map]
    rfl
/-- the class of arrays of arrays of int -/
def b_AO (U : State) : Prop := (Cond.arrayOver (.array .int)).before #[] U = true
theorem b_AO_moved {u U : State} (hvm : u.vm.Alike U.vm) (h : b_AO u) : b_AO U := by
  unfold b_AO Cond.before Cond.holds at h ⊢
  simp only [Cond.value] at h ⊢
  rw [show (FieldType.array FieldType.int).toString = "[I" from rfl] at h ⊢
  rw [hvm.findClass]
  cases hc : u.vm.findClass "[I" with
  | none => rw [hc] at h; simp at h
  | some comp =>
    rw [hc] at h
    rw [Option.bind_some] at h ⊢
    have hi : (U.vm.classes.findIdx? fun (x : Class) => match x.kind with | .array component _ => component == comp | _ => false) = (u.vm.classes.findIdx? fun (x : Class) => match x.kind with | .array component _ => component == comp | _ => false) := by
      have e1 := va_idx_bare U.vm comp
      have e2 := va_idx_bare u.vm comp
      first | rw [hvm.bare_eq] at e1 | rw [← hvm.bare_eq] at e1
      exact e1.symm.trans e2
    cases hz : (u.vm.classes.findIdx? fun (x : Class) => match x.kind with | .array component _ => component == comp | _ => false) with
    | none =>
      have h2 := (congrArg (fun o : Option Nat => (o.bind (fun c => (u.vm.classes[c]?).map fun (k : Class) => match k.kind with | .array _ ty => decide (ty = FieldType.array .int) && decide (u.vm.findClass ("[" ++ "[I") = some c) | _ => false) == some true)) hz).symm.trans h
      simp at h2
    | some cx =>
      have h2 := (congrArg (fun o : Option Nat => (o.bind (fun c => (u.vm.classes[c]?).map fun (k : Class) => match k.kind with | .array _ ty => decide (ty = FieldType.array .int) && decide (u.vm.findClass ("[" ++ "[I") = some c) | _ => false) == some true)) hz).symm.trans h
      refine (congrArg (fun o : Option Nat => (o.bind (fun c => (U.vm.classes[c]?).map fun (k : Class) => match k.kind with | .array _ ty => decide (ty = FieldType.array .int) && decide (U.vm.findClass ("[" ++ "[I") = some c) | _ => false) == some true)) (hi.trans hz)).trans ?_
      rw [Option.bind_some] at h2 ⊢
      cases hk : u.vm.classes[cx]? with
      | none => rw [hk] at h2; simp at h2
      | some k =>
        obtain ⟨k', hk', he⟩ := hvm.2.2 _ _ hk
        rw [hk] at h2
        rw [hk', Option.map_some, he]
        rw [Option.map_some] at h2
        rw [hvm.findClass]
        exact h2
