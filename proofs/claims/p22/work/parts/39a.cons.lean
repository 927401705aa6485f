/-! the constructors -/
theorem b_gr6 (q : Nat) : (fun i : Nat => if i < 6 then some (q + 1 + i) else none) = (fun i => ([q + 1 + 0, q + 1 + 1, q + 1 + 2, q + 1 + 3, q + 1 + 4, q + 1 + 5] : List Nat)[i]?) := by
  funext i
  match i with
  | 0 => rfl
  | 1 => rfl
  | 2 => rfl
  | 3 => rfl
  | 4 => rfl
  | 5 => rfl
  | k + 6 =>
    rw [if_neg (by omega)]
    rfl
theorem b_gr2 (q : Nat) : (fun i : Nat => if i < 2 then some (q + 1 + i) else none) = (fun i => ([q + 1 + 0, q + 1 + 1] : List Nat)[i]?) := by
  funext i
  match i with
  | 0 => rfl
  | 1 => rfl
  | k + 2 =>
    rw [if_neg (by omega)]
    rfl
section CNS
variable {p : Program} {l : Launch} {e : Env} {R : Room} {s : State} {m : MethodId} {args : Array Value} {below : List Frame} {meth : Method} {c : Code} {H : Heap} {locs : List Loc} {cells slots : Nat} {Q : State → Prop}
variable {cc : ByteArray} {pc : Nat} {ls : Array Slot} {rest : List Value} {D : va_G} {A : Nat → Prop} {tys : List (ClassId × FieldType)} {ws : va_W} {H0 : Heap}
theorem b_newa (hexec : p.tables.exec = Jvm.exec) (hb : c.code = cc) {atype : ArrayType} (harr : (Cond.arrayClass (newarray.typeOf atype)).before args s = true) (hK : va_K D vwCl tys s) (t0 : Nat) {cA : ClassId} {ty : FieldType} (ht : tys[t0]? = some (cA, ty)) (hty : newarray.typeOf atype = ty) (hno : va_RA s cA ty → s.vm.findClass ("[" ++ ty.toString) = some cA)
    (hP : va_P D vwCl ws H) (hD : va_D A ws) (hS : va_S A H0 H locs) (hA : ∀ q, H0.size ≤ q → A q) {n : Int32} {N' : Nat} {a0 : vp_A} (ha : ∀ cA : ClassId, vp_cell cA a0 = arrV cA N' (fun _ => defaultValue ty)) (hn : ¬ n < 0) (hN : n.toNatClampNeg = N') (hbytes : N' * componentBytes ty ≤ 536870912) (hcells : cells + 1 ≤ R.cells) (hslots : slots + N' ≤ R.slots) (hdg : decode cc pc = .ok (.newarray atype, 2))
    (kk : ∀ (q : Nat) (H1 : Heap), va_P D vwCl (ws ++ [(q, .inl (cA, a0))]) H1 → va_D A (ws ++ [(q, .inl (cA, a0))]) → va_S A H0 H1 locs → W p l e R s m args below meth c H1 locs (cells + 1) (slots + N') Q (F0 m (pc + 2) ls (.ref q :: rest))) : W p l e R s m args below meth c H locs cells slots Q (F0 m pc ls (.int n :: rest)) := by
  subst hty
  refine va_newaK hexec hb harr rfl hdg rfl hn hN hbytes hcells hslots rfl fun H1 cB e1 z1 o1 hAr hNm => ?_
  have ec : cB = cA := Option.some.inj (hNm.symm.trans (hno (hK.2 t0 _ ht).2))
  subst ec
  have hk : ∀ (k : Nat) (x : Nat × va_E), ws[k]? = some x → H1[x.1]? = H[x.1]? := fun k x hx => o1 x.1 ((hP k x hx).lt)
  refine kk H.size H1 ((hP.kept hk).app (fun k x hx => ?_)) (hD.push hP rfl (hA _ hS.1)) ⟨Nat.le_trans hS.1 (by omega), fun x h1 h2 => (o1 x (Nat.lt_of_lt_of_le h1 hS.1)).trans (hS.2.1 x h1 h2), hS.2.2⟩
  have hz : k < 1 := (List.getElem?_eq_some_iff.mp hx).1
  rw [show k = 0 by omega] at hx
  cases hx
  show H1[H.size]? = some (vp_cell _ _)
  rw [ha]
  exact e1
abbrev b_grid (cG cI : ClassId) (q N' : Nat) : va_W := (q, .inl (cG, N', .inr (.inr (.inr (.inr (fun i => if i < N' then some (q + 1 + i) else none)))))) :: (List.range N').map (fun i => (q + 1 + i, .inl (cI, 86, .inl (fun _ => 0))))
theorem b_grid_at {cG cI : ClassId} {q N' k : Nat} {x : Nat × va_E} (h : (b_grid cG cI q N')[k]? = some x) : x.1 = q + k ∧ k < N' + 1 ∧ ((k = 0 ∧ x.2 = .inl (cG, N', .inr (.inr (.inr (.inr (fun i => if i < N' then some (q + 1 + i) else none)))))) ∨ (0 < k ∧ x.2 = .inl (cI, 86, .inl (fun _ => 0)))) := by
  match k with
  | 0 =>
    cases h
    exact ⟨rfl, by omega, Or.inl ⟨rfl, rfl⟩⟩
  | j + 1 =>
    have h2 : ((List.range N').map (fun i => ((q + 1 + i, .inl (cI, 86, .inl (fun _ => 0))) : Nat × va_E)))[j]? = some x := h
    rw [List.getElem?_map] at h2
    cases hj : (List.range N')[j]? with
    | none => rw [hj] at h2; cases h2
    | some i =>
      rw [hj] at h2
      have hlt : j < N' := by
        have := (List.getElem?_eq_some_iff.mp hj).1
        simpa using this
      have hi : i = j := by
        have h3 := (List.getElem?_eq_some_iff.mp hj).2
        simpa using h3.symm
      subst hi
      cases h2
      exact ⟨by show q + 1 + i = q + (i + 1); omega, by omega, Or.inr ⟨by omega, rfl⟩⟩
theorem b_mna (hexec : p.tables.exec = Jvm.exec) (hb : c.code = cc) {own : String} {index : Nat} {cG cI : ClassId} (hown : s.vm.findClass own = some m.cls) (hclink : (Cond.classLink own index "[[I").before args s = true) (hover : b_AO s) (harr : (Cond.arrayClass .int).before args s = true)
    (hK : va_K D vwCl tys s) (tG tI : Nat) (htG : tys[tG]? = some (cG, .array .int)) (htI : tys[tI]? = some (cI, .int)) (hP : va_P D vwCl ws H) (hD : va_D A ws) (hS : va_S A H0 H locs) (hA : ∀ q, H0.size ≤ q → A q) (N' : Nat) (hn : N' < 100) (hcells : cells + (1 + N') ≤ R.cells) (hslots : slots + (N' + N' * 86) ≤ R.slots) (hdg : decode cc pc = .ok (.multianewarray index 2, 4))
    (kk : ∀ (q : Nat) (H1 : Heap), va_P D vwCl (ws ++ b_grid cG cI q N') H1 → va_D A (ws ++ b_grid cG cI q N') → va_S A H0 H1 locs → W p l e R s m args below meth c H1 locs (cells + 1 + N') (slots + N' + N' * 86) Q (F0 m (pc + 4) ls (.ref q :: rest))) : W p l e R s m args below meth c H locs cells slots Q (F0 m pc ls (.int 86 :: .int (nI N') :: rest)) := by
  intro T hT Xs
  have c1 : (nI N').toNatClampNeg = N' := nI_clamp (by omega)
  have c2 : (86 : Int32).toNatClampNeg = 86 := by decide
  obtain ⟨vm₁, cA, comp, -, fA, fC, hO, -, X', step⟩ := Xs.multianewarray2F (ty := .int) (n := nI N') (k := 86) hexec hown hclink hover harr (g := F0 m pc ls (.int 86 :: .int (nI N') :: rest)) rfl (by rw [hb]; exact hdg) rfl (nI_pos (by omega)) (by decide) (by rw [c1]; omega) (by rw [c2]; decide) (by rw [c2]; decide) rfl rfl (by rw [c1]; exact hcells) (by rw [c1, c2]; exact hslots)
  have ecG : some cG = some cA := ((hK.2 tG _ htG).2 : s.vm.findClass _ = some cG).symm.trans fA
  cases ecG
  have ecI : some cI = some comp := ((hK.2 tI _ htI).2 : s.vm.findClass _ = some cI).symm.trans fC
  cases ecI
  rw [c1, c2] at X' step
  generalize hF : Jvm.Free.Multi.fill (T.setVm vm₁) cG cI N' 86 (defaultValue .int) N' = F at X' step
  have hTh : (T.setVm vm₁).heap = H := hT
  obtain ⟨f1, f2, -, -⟩ := Jvm.Free.Multi.fill_facts (T.setVm vm₁) cG cI N' 86 (defaultValue .int) N'
  rw [hF, hTh] at f1 f2
  have hold : ∀ x : Nat, x < H.size → F.heap[x]? = H[x]? := fun x hx => by
    have := Jvm.Free.Multi.fill_old (T.setVm vm₁) cG cI N' 86 (defaultValue .int) (a := x) (by rw [hTh]; exact hx) N'
    rw [hF, hTh] at this
    exact this
  have hrow : ∀ j : Nat, j < N' → F.heap[H.size + 1 + j]? = some (Jvm.Free.Multi.innerC cI 86 (defaultValue .int)) := fun j hj => by
    have := Jvm.Free.Multi.fill_inner (T.setVm vm₁) cG cI N' 86 (defaultValue .int) N' j hj
    rw [hF, hTh] at this
    exact this
  rw [vr_outer cG N' H.size N'] at f2
  have hlt : ∀ (k : Nat) (x : Nat × va_E), ws[k]? = some x → x.1 < H.size := fun k x hx => (hP k x hx).lt
  have hP1 : va_P D vwCl (ws ++ b_grid cG cI H.size N') F.heap := by
    refine (hP.kept (fun k x hx => hold x.1 (hlt k x hx))).app (fun k x hx => ?_)
    obtain ⟨h1, h2, h3⟩ := b_grid_at hx
    obtain ⟨xa, xe⟩ := x
    have h1 : xa = H.size + k := h1
    subst h1
    rcases h3 with ⟨h4, h5⟩ | ⟨h4, h5⟩
    · have h5 : xe = _ := h5
      subst h5
      subst h4
      exact f2
    · have h5 : xe = _ := h5
      subst h5
      have := hrow (k - 1) (by omega)
      rw [show H.size + 1 + (k - 1) = H.size + k by omega] at this
      show F.heap[H.size + k]? = some (vp_cell cI (86, .inl (fun _ => 0)))
      rw [this, vp_cell_i]
      unfold Jvm.Free.Multi.innerC
      rw [arrV_new]
      rfl
  have hD1 : va_D A (ws ++ b_grid cG cI H.size N') := by
    have look : ∀ (k : Nat) (x : Nat × va_E), (ws ++ b_grid cG cI H.size N')[k]? = some x → (k < ws.length ∧ ws[k]? = some x ∧ x.1 < H.size) ∨ (ws.length ≤ k ∧ x.1 = H.size + (k - ws.length)) := fun k x hx => by
      rcases Nat.lt_or_ge k ws.length with z | z
      · rw [List.getElem?_append_left z] at hx
        exact Or.inl ⟨z, hx, hlt k x hx⟩
      · rw [List.getElem?_append_right z] at hx
        exact Or.inr ⟨z, (b_grid_at hx).1⟩
    refine ⟨fun i j x y hi hj hxy => ?_, fun k x hk => ?_⟩
    · rcases look i x hi with ⟨z1, z2, z3⟩ | ⟨z1, z2⟩
      · rcases look j y hj with ⟨y1, y2, y3⟩ | ⟨y1, y2⟩
        · exact hD.1 i j x y z2 y2 hxy
        · omega
      · rcases look j y hj with ⟨y1, y2, y3⟩ | ⟨y1, y2⟩
        · omega
        · omega
    · rcases look k x hk with ⟨z1, z2, z3⟩ | ⟨z1, z2⟩
      · exact hD.2 k x z2
      · exact hA _ (by have := hS.1; omega)
  have hS1 : va_S A H0 F.heap locs := ⟨by rw [f1]; have := hS.1; omega, fun x h1 h2 => (hold x (Nat.lt_of_lt_of_le h1 hS.1)).trans (hS.2.1 x h1 h2), hS.2.2⟩
  obtain ⟨t, a1, b1⟩ := kk H.size F.heap hP1 hD1 hS1 F rfl X'
  refine ⟨t, step t ?_, b1⟩
  have e : T.heap.size = H.size := by rw [hT]
  rw [e]
  exact a1
end CNS
def h_ini : Nat → (Nat → Int32)
  | 0 => upd (upd (upd (fun _ => 0) 0 30) 1 3) 2 20
  | k + 1 => upd (h_ini k) (8 + k * 13 + 12) (-6)
def m_ini : Nat → (Nat → Int32)
  | 0 => upd (upd (upd (fun _ => 0) 0 30) 1 3) 2 20
  | k + 1 => upd (upd (m_ini k) (8 + 13 * k + 1) (-6)) (8 + 13 * k + 11) (-6)
