/-! isStep: what its cases share -/
def sTk (ρ : HS) (t : Nat) : HS := sNum (sPut (sText ρ 0 (sT ρ)) 46) t
theorem sTk_ok {ρ : HS} {t : Nat} (h : sOk ρ) (ht : 0 < t ∧ t ≤ 99) : sOk (sTk ρ t) := by
  have k := (sNum_keeps (sPut (sText ρ 0 (sT ρ)) 46) t).2
  refine ⟨(tk_text (ρ := ρ) ht).2.2, ?_, ?_⟩
  · show (sTk ρ t).2.2.2.2.1 < 6
    unfold sTk
    rw [k]
    exact h.2.1
  · show (sTk ρ t).2.2.2.2.2.1 ≤ 6
    unfold sTk
    rw [k]
    exact h.2.2
theorem sTk_F (ρ : HS) (t : Nat) : (sTk ρ t).1 = ρ.1 := (sNum_keeps (sPut (sText ρ 0 (sT ρ)) 46) t).1
theorem sTk_R (ρ : HS) (t : Nat) : (sTk ρ t).2.2.2.2 = ρ.2.2.2.2 := (sNum_keeps (sPut (sText ρ 0 (sT ρ)) 46) t).2
theorem sTk_ff {ρ : HS} {t : Nat} (ht : 0 < t ∧ t ≤ 99) : p_ff (sT (sTk ρ t)) (sN (sTk ρ t)) (sN (sTk ρ t)) 0 0 = -6 := (tk_text (ρ := ρ) ht).1
theorem sTk_hap {ρ : HS} {t : Nat} (ht : 0 < t ∧ t ≤ 99) (f : Nat → Int32) : p_hap (sT (sTk ρ t)) (sN (sTk ρ t)) (sN (sTk ρ t) + 1) 0 0 f 0 = (h_let f (nI t), 0) := (tk_text (ρ := ρ) ht).2.1 f
abbrev st_Qc (D : va_G) (cI cC cZ cG : ClassId) (N : Nat) (ad bd : Nat → Nat) (A : Nat → Prop) : Array Value → State → Outcome → State → Prop := va_Qi (fun (r : Int32) (u : HS × HS) => r = 1 ∧ Rel (N + 100) u.1 u.2) (fun u t => va_P D vwCl (hc cI cC cZ cG ad u.1 ++ hc cI cC cZ cG bd u.2) t.heap) A
abbrev st_av (ad bd : Nat → Nat) (x y : Int32) : Array Value := ([.ref (ad 0), .ref (bd 0), .int x, .int y] : List Value).toArray
def st_C (p : Program) (s : State) (m : MethodId) (meth : Method) (c : Code) (D : va_G) (cI cC cZ cG : ClassId) (A : Nat → Prop) (tb lo hi : Nat) (ad bd : Nat → Nat) (x y : Int32) : Prop :=
  p.tables.exec = Jvm.exec ∧ c.code = cL_isStep ∧ meth.sig.returnType = some .boolean ∧ c.maxLocals = 13 ∧ s.vm.findClass RL = some m.cls ∧ (∀ w ∈ wsL_isStep, w.before (st_av ad bd x y) s = true) ∧ meth.locks = false ∧ va_K D vwCl (b_T cI cC cZ cG) s ∧ (∀ q, s.heap.size ≤ q → A q) ∧ b_X tb lo hi A s s.heap
section ST
variable {p : Program} {l : Launch} {e : Env} {R : Room} {s : State} {m : MethodId} {args : Array Value} {below : List Frame} {meth : Method} {c : Code} {H : Heap} {locs : List Loc}
theorem st_ret {cc : ByteArray} {pc : Nat} {ls : Array Slot} {D : va_G} {A : Nat → Prop} {cI cC cZ cG : ClassId} {N : Nat} {ad bd : Nat → Nat} {τ υ : HS} (hexec : p.tables.exec = Jvm.exec) (hb : c.code = cc) (hr : meth.sig.returnType = some .boolean) (hlocks : meth.locks = false) (hS : va_S A s.heap H locs) (hR : Rel (N + 100) τ υ) (hP : va_P D vwCl (hc cI cC cZ cG ad τ ++ hc cI cC cZ cG bd υ) H) (hdg : decode cc pc = .ok (.ireturn, 1)) : W p l e R s m args below meth c H locs 0 0 (MQ below (st_Qc D cI cC cZ cG N ad bd A) args s 0 0 A) (F0 m pc ls [.int 1]) :=
  W.zret (v := 1) hexec hb hr rfl (fun t ht hW => ⟨⟨1, (τ, υ), rfl, ⟨rfl, hR⟩, by show va_P D vwCl _ t.heap; rw [ht]; exact hP⟩, hS.F ht⟩) hS.2.2 hdg hlocks
end ST
