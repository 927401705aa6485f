/-! cell: some number of the script, or none of it -/
theorem c_L_cell (l : Launch) (b L : Nat) (xs : Nat → Int32) (k : Nat) (hL : L ≤ 260) (hk : k < 1000) : Met l yL_cell wsL_cell ({ frames := 0, cells := 0, slots := 0, locals := 0 } : Room) (va_Pc [.ref b, .int (nI k)] (fun U => va_X b L xs U U.heap)) (vp_Si (fun _ => True)) 0 0 (fun _ => False) := by
  refine Met.ofW (cc := cL_cell) (maxL := 2) (ret := some .int) (by decide) rfl ?_
  intro p e s m args below meth c s₁ B hml hv
  obtain ⟨rfl, hX⟩ := hv
  have hl := lv_entry [.ref b, .int (nI k)] (n := 2) (Nat.le_of_ble_eq_true rfl)
  rw [lg_entry_eq]
  generalize (lg_sl ([.ref b, .int (nI k)]) ++ List.replicate (2 - (lg_sl ([.ref b, .int (nI k)])).length) Slot.unset).toArray = ls at hl ⊢
  have hl : lv_has ls 2 [(0, .ref b), (1, .int (nI k))] := hl
  have hx := B.exec
  have hb : c.code = cL_cell := B.bytes
  have hr := B.returns
  have hlocks := B.notSynchronized
  have hown : s.vm.findClass RL = some m.cls := findClass_of_methodNamed B.named
  have hts := atoms_spec (ws := wsL_cell) B.pre
  have hbl : b < s.heap.size := by
    obtain ⟨scr, h1, -⟩ := hX
    exact (Array.getElem?_eq_some_iff.mp h1).1
  have hS : va_S (fun _ => False) s.heap s.heap [] := va_S.rf
  have fin : ∀ (v : Int32) (ls : Array Slot), W p l e ({ frames := 0, cells := 0, slots := 0, locals := 0 } : Room) s m ([.ref b, .int (nI k)] : List Value).toArray below meth c s.heap [] 0 0 (MQ below (vp_Si (fun _ => True)) ([.ref b, .int (nI k)] : List Value).toArray s 0 0 (fun _ => False)) (F0 m 20 ls [.int v]) := fun v ls =>
    W.iret (v := v) hx hb hr (fun t ht hW => ⟨v, rfl, trivial, ht⟩) (fun _ h => by cases h) dL_cell_20 hlocks
  refine lv_iload_n (pc := 0) hx hb dL_cell_0 rfl (lv_at hl 1 rfl) ?_
  refine lv_aload_n (pc := 1) hx hb dL_cell_1 rfl (lv_at hl 0 rfl) ?_
  refine va_slen hx hb hX hbl (fun h => h) hS dL_cell_2 ?_
  refine b_re (show _ = nI L from rfl) ?_
  refine lv_icmp_ge (pc := 3) (tgt := 12) hx hb dL_cell_3 (by decide) (fun c_1 => ?_) (fun c_1 => ?_)
  · refine lv_ldc (pc := 12) hx hb hown (hts _ (show (.constant RL 7 (2143676881) : Cond) ∈ wsL_cell from List.mem_cons_of_mem _ List.mem_cons_self)) dL_cell_12 ?_
    refine lv_iload_n (pc := 14) hx hb dL_cell_14 rfl (lv_at hl 1 rfl) ?_
    refine lv_sipush (pc := 15) (v := 1367) hx hb dL_cell_15 (by decide) ?_
    refine lv_iadd (pc := 18) hx hb dL_cell_18 ?_
    refine lv_imul (pc := 19) hx hb dL_cell_19 ?_
    exact fin _ _
  · have c_1 : ¬ (L ≤ k) := fun h9 => c_1 ((nI_leI (a := L) (b := k) (by omega) (by omega)).mpr h9)
    refine lv_aload_n (pc := 6) hx hb dL_cell_6 rfl (lv_at hl 0 rfl) ?_
    refine lv_iload_n (pc := 7) hx hb dL_cell_7 rfl (lv_at hl 1 rfl) ?_
    refine va_sld (pc := 8) hx hb hX hbl (fun h => h) hS (vp_in_nI (by omega) (by omega)) dL_cell_8 ?_
    refine lv_goto (pc := 9) (tgt := 20) hx hb dL_cell_9 (by decide) ?_
    exact fin _ _
section LL
variable {p : Program} {l : Launch} {e : Env} {R : Room} {s : State} {m : MethodId} {args : Array Value} {below : List Frame} {meth : Method} {c : Code} {H : Heap} {locs : List Loc} {cells slots : Nat} {Q : State → Prop}
variable {pc : Nat} {ls : Array Slot} {rest st0 : List Value} {D : va_G} {A0 : Nat → Prop} {wc w1 wr : va_W} {H0 : Heap}
theorem b_cWlc {v : Int32} {mc ms : Nat} {av : Array Value} (hr : va_Run p l e R s m args below meth c H locs cells slots mc ms (F0 m pc ls st0) rest (b_Qi D v w1 (va_A wc H.size) av) (va_A wc H.size)) (hP : va_P D vwCl (wc ++ wr) H) (hD : va_D A0 (wc ++ wr)) (hS : va_S A0 H0 H locs) (hA : ∀ q, H0.size ≤ q → A0 q) (hw : w1.map (fun q => q.1) = wc.map (fun q => q.1))
    (kk : ∀ (H1 : Heap) (locs1 : List Loc), va_P D vwCl (w1 ++ wr) H1 → va_D A0 (w1 ++ wr) → va_S A0 H0 H1 locs1 → W p l e R s m args below meth c H1 locs1 (cells + mc) (slots + ms) Q (F0 m (pc + 3) ls (.int v :: rest))) : W p l e R s m args below meth c H locs cells slots Q (F0 m pc ls st0) := by
  have hlen : w1.length = wc.length := by have := congrArg List.length hw; simpa using this
  have e : b_put (wc ++ wr) (List.range' 0 wc.length) w1 = w1 ++ wr := b_put_x w1 [] wc wr hlen
  have hF := b_fr (b_DL hD) hS hA
  refine va_calli hr hS (fun q _ h => hF q h) hF (fun r u t H1 locs1 ht _ hv hB _ hk hS1 => ?_)
  subst hv
  rw [ht] at hB
  obtain ⟨h1, h2⟩ := b_join hP hD (List.range' 0 wc.length) (b_get_x [] wc wr) hw hk hB
  rw [e] at h1 h2
  exact kk H1 locs1 h1 h2 hS1
theorem lw_pre {b L : Nat} {xs : Nat → Int32} {As : List Value} (hX : va_X b L xs s H) : PreS s H (va_Pc As (fun U => va_X b L xs U U.heap)) As :=
  ⟨fun a U g mk q => ⟨q.1, va_X.moved (u := U) (U := U.calling g mk a) (Vm.Alike.refl U.vm) q.2⟩, fun U hU hW => ⟨rfl, by show va_X b L xs U U.heap; rw [hU]; exact hX.moved hW.alike⟩⟩
theorem hc2_ad (cI cC cZ cG : ClassId) (ad bd : Nat → Nat) (σ τ ρ υ : HS) : (hc cI cC cZ cG ad τ ++ hc cI cC cZ cG bd υ).map (fun q => q.1) = (hc cI cC cZ cG ad σ ++ hc cI cC cZ cG bd ρ).map (fun q => q.1) := by
  rw [List.map_append, List.map_append, hc_ad cI cC cZ cG ad σ τ, hc_ad cI cC cZ cG bd ρ υ]
end LL
def lw_C (p : Program) (s : State) (m : MethodId) (meth : Method) (c : Code) (D : va_G) (cI cC cZ cG : ClassId) (A : Nat → Prop) (tb lo hi b L : Nat) (xs : Nat → Int32) : Prop :=
  p.tables.exec = Jvm.exec ∧ c.code = cL_law ∧ c.maxLocals = 5 ∧ s.vm.findClass RL = some m.cls ∧ (∀ w ∈ wsL_law, w.before #[Value.ref b] s = true) ∧ va_X b L xs s s.heap ∧ b < s.heap.size ∧ (¬ A b) ∧ (∀ q, s.heap.size ≤ q → A q) ∧ va_K D vwCl (b_T cI cC cZ cG) s ∧ b_X tb lo hi A s s.heap
