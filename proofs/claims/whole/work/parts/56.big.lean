/-! the two states: rows, pad, history, slots -/
def Hist (N nx sn : Nat) (R : Nat → Nat → Int32) (hs : Nat → Int32) : Prop := ∀ j, j < sn → Row N (R ((nx + 6 - sn + j) % 6)) (fun k => hs (86 * j + k))
def Slots (N : Nat) (SL : Nat → Nat → Int32) (sv sl iv : Nat → Int32) : Prop := ∀ t, t < 2 → (sv t = 0 ∧ iv t = 0) ∨ ((¬ sv t = 0) ∧ (¬ iv t = 0) ∧ Row N (SL t) (fun k => sl (86 * t + k)))
def Big (N : Nat) (f : Nat → Int32) (n nx sn : Nat) (R SL : Nat → Nat → Int32) (sv a hs sl iv : Nat → Int32) : Prop := Row N f a ∧ n ≤ 60 ∧ (nx < 6 ∧ sn ≤ 6) ∧ Hist N nx sn R hs ∧ Slots N SL sv sl iv
theorem Hist.mono {N M nx sn : Nat} {R : Nat → Nat → Int32} {hs : Nat → Int32} (h : Hist N nx sn R hs) (hm : N ≤ M) : Hist M nx sn R hs := fun j hj => (h j hj).mono hm
theorem Slots.mono {N M : Nat} {SL : Nat → Nat → Int32} {sv sl iv : Nat → Int32} (h : Slots N SL sv sl iv) (hm : N ≤ M) : Slots M SL sv sl iv := fun t ht => (h t ht).imp id (fun z => ⟨z.1, z.2.1, z.2.2.mono hm⟩)
theorem Big.mono {N M : Nat} {f : Nat → Int32} {n nx sn : Nat} {R SL : Nat → Nat → Int32} {sv a hs sl iv : Nat → Int32} (h : Big N f n nx sn R SL sv a hs sl iv) (hm : N ≤ M) : Big M f n nx sn R SL sv a hs sl iv :=
  ⟨h.1.mono hm, h.2.1, h.2.2.1, h.2.2.2.1.mono hm, h.2.2.2.2.mono hm⟩
theorem Hist.keep {N nx sn : Nat} {R : Nat → Nat → Int32} {hs f a : Nat → Int32} (h : Hist N nx sn R hs) (hR : Row N f a) (hnx : nx < 6) (hsn : sn ≤ 6) : Hist N (h_nx nx) (h_sz sn) (va_up R nx (va_cpy f (R nx) 0 0 86)) (m_hs a hs sn) := by
  have hnx2 : h_nx nx = (nx + 1) % 6 := by
    unfold h_nx
    split <;> omega
  intro j hj
  rw [hnx2]
  unfold m_hs
  by_cases c : sn = 6
  · have hsz : h_sz sn = 6 := by rw [c]; rfl
    rw [hsz] at hj ⊢
    rw [if_pos c]
    by_cases c2 : j = 5
    · have ei : ((nx + 1) % 6 + 6 - 6 + j) % 6 = nx := by omega
      rw [ei, va_up_self]
      refine hR.cong (fun k hk => ?_) (fun k hk => ?_)
      · rw [pk_cpy_in (by omega) (by omega)]
        congr 1
        omega
      · show va_cpy a _ 0 (86 * (sn - 1)) 86 (86 * j + k) = a k
        rw [pk_cpy_in (by omega) (by omega)]
        congr 1
        omega
    · have ei : ((nx + 1) % 6 + 6 - 6 + j) % 6 = (nx + 6 - sn + (j + 1)) % 6 := by omega
      rw [ei, va_up_ne _ _ (by omega)]
      refine (h (j + 1) (by omega)).cong (fun _ _ => rfl) (fun k hk => ?_)
      show va_cpy a _ 0 (86 * (sn - 1)) 86 (86 * j + k) = hs (86 * (j + 1) + k)
      rw [pk_cpy_out (by omega), pk_cpy_in (by omega) (by omega)]
      congr 1
      omega
  · have hsz : h_sz sn = sn + 1 := by
      unfold h_sz
      rw [if_pos (by omega)]
    rw [hsz] at hj ⊢
    rw [if_neg c]
    have ei : ((nx + 1) % 6 + 6 - (sn + 1) + j) % 6 = (nx + 6 - sn + j) % 6 := by omega
    rw [ei]
    by_cases c2 : j = sn
    · have ei2 : (nx + 6 - sn + j) % 6 = nx := by omega
      rw [ei2, va_up_self]
      refine hR.cong (fun k hk => ?_) (fun k hk => ?_)
      · rw [pk_cpy_in (by omega) (by omega)]
        congr 1
        omega
      · show va_cpy a hs 0 (86 * sn) 86 (86 * j + k) = a k
        rw [pk_cpy_in (by omega) (by omega)]
        congr 1
        omega
    · rw [va_up_ne _ _ (by omega)]
      refine (h j (by omega)).cong (fun _ _ => rfl) (fun k hk => ?_)
      show va_cpy a hs 0 (86 * sn) 86 (86 * j + k) = hs (86 * j + k)
      exact pk_cpy_out (by omega)
/-- a change: the state before it comes into the history -/
theorem Big.change {N M : Nat} {f f2 : Nat → Int32} {n n2 nx sn : Nat} {R SL : Nat → Nat → Int32} {sv a a2 hs sl iv : Nat → Int32} (h : Big N f n nx sn R SL sv a hs sl iv) (hm : N ≤ M) (hR : Row M f2 a2) (hn : n2 ≤ 60) : Big M f2 n2 (h_nx nx) (h_sz sn) (va_up R nx (va_cpy f (R nx) 0 0 86)) SL sv a2 (m_hs a hs sn) sl iv := by
  obtain ⟨h1, h2, ⟨h3, h4⟩, h5, h6⟩ := h
  refine ⟨hR, hn, ⟨?_, ?_⟩, (h5.keep h1 h3 h4).mono hm, h6.mono hm⟩
  · unfold h_nx
    split <;> omega
  · unfold h_sz
    split <;> omega
theorem Big.undo {N : Nat} {f : Nat → Int32} {n nx sn : Nat} {R SL : Nat → Nat → Int32} {sv a hs sl iv : Nat → Int32} (h : Big N f n nx sn R SL sv a hs sl iv) (hs0 : 0 < sn) : Big N (va_cpy (R (h_pv nx)) f 0 0 86) n (h_pv nx) (sn - 1) R SL sv (va_cpy hs a (86 * (sn - 1)) 0 86) hs sl iv := by
  obtain ⟨h1, h2, ⟨h3, h4⟩, h5, h6⟩ := h
  have ep : h_pv nx = (nx + 5) % 6 := by
    unfold h_pv
    split <;> omega
  refine ⟨?_, h2, ⟨by rw [ep]; omega, by omega⟩, fun j hj => ?_, h6⟩
  · have e : (nx + 6 - sn + (sn - 1)) % 6 = h_pv nx := by rw [ep]; omega
    have hr := h5 (sn - 1) (by omega)
    rw [e] at hr
    refine hr.cong (fun k hk => ?_) (fun k hk => ?_)
    · rw [pk_cpy_in (by omega) (by omega)]
      congr 1
      omega
    · rw [pk_cpy_in (by omega) (by omega)]
      congr 1
  · have e : (h_pv nx + 6 - (sn - 1) + j) % 6 = (nx + 6 - sn + j) % 6 := by rw [ep]; omega
    rw [e]
    exact h5 j (by omega)
theorem Big.save {N : Nat} {f : Nat → Int32} {n nx sn w : Nat} {R SL : Nat → Nat → Int32} {sv a hs sl iv : Nat → Int32} (h : Big N f n nx sn R SL sv a hs sl iv) (hw : w < 2) : Big N f n nx sn R (va_up SL w (va_cpy f (SL w) 0 0 86)) (upd sv w 1) a hs (va_cpy a sl 0 (86 * w) 86) (upd iv w 1) := by
  obtain ⟨h1, h2, h3, h5, h6⟩ := h
  refine ⟨h1, h2, h3, h5, fun t ht => ?_⟩
  by_cases c : t = w
  · subst c
    rw [pk_us, pk_us, va_up_self]
    refine Or.inr ⟨by decide, by decide, h1.cong (fun k hk => ?_) (fun k hk => ?_)⟩
    · rw [pk_cpy_in (by omega) (by omega)]
      congr 1
      omega
    · show va_cpy a sl 0 (86 * t) 86 (86 * t + k) = a k
      rw [pk_cpy_in (by omega) (by omega)]
      congr 1
      omega
  · rw [pk_un c, pk_un c, va_up_ne _ _ c]
    refine (h6 t ht).imp id (fun z => ⟨z.1, z.2.1, z.2.2.cong (fun _ _ => rfl) (fun k hk => ?_)⟩)
    show va_cpy a sl 0 (86 * w) 86 (86 * t + k) = sl (86 * t + k)
    exact pk_cpy_out (by omega)
theorem Big.slot {N : Nat} {f : Nat → Int32} {n nx sn w : Nat} {R SL : Nat → Nat → Int32} {sv a hs sl iv : Nat → Int32} (h : Big N f n nx sn R SL sv a hs sl iv) (hw : w < 2) (hz : ¬ sv w = 0) : Row N (va_cpy (SL w) f 0 0 86) (va_cpy sl a (86 * w) 0 86) := by
  rcases h.2.2.2.2 w hw with ⟨z, -⟩ | ⟨-, -, z⟩
  · exact absurd z hz
  · refine z.cong (fun k hk => ?_) (fun k hk => ?_)
    · rw [pk_cpy_in (by omega) (by omega)]
      congr 1
      omega
    · rw [pk_cpy_in (by omega) (by omega)]
      congr 1
theorem Big.slot0 {N : Nat} {f : Nat → Int32} {n nx sn w : Nat} {R SL : Nat → Nat → Int32} {sv a hs sl iv : Nat → Int32} (h : Big N f n nx sn R SL sv a hs sl iv) (hw : w < 2) : sv w = 0 ↔ iv w = 0 := by
  rcases h.2.2.2.2 w hw with ⟨z, z2⟩ | ⟨z, z2, -⟩
  · exact ⟨fun _ => z2, fun _ => z⟩
  · exact ⟨fun q => absurd q z, fun q => absurd q z2⟩
/-- the row under another name -/
theorem Big.row {N M : Nat} {f f2 : Nat → Int32} {n n2 nx sn : Nat} {R SL : Nat → Nat → Int32} {sv a a2 hs sl iv : Nat → Int32} (h : Big N f n nx sn R SL sv a hs sl iv) (hm : N ≤ M) (hR : Row M f2 a2) (hn : n2 ≤ 60) : Big M f2 n2 nx sn R SL sv a2 hs sl iv :=
  ⟨hR, hn, h.2.2.1, h.2.2.2.1.mono hm, h.2.2.2.2.mono hm⟩
/-- what the events of the pad do -/
theorem Big.reads {N : Nat} {f : Nat → Int32} {n nx sn : Nat} {R SL : Nat → Nat → Int32} {sv a hs sl iv : Nat → Int32} (h : Big N f n nx sn R SL sv a hs sl iv) (hN : N + 60 ≤ 1000000) {tx : Nat → Int32} {nu : Int32} (hf : p_ff tx n n 0 0 = -6) {f2 a2 : Nat → Int32} (e1 : ∀ k, k < 86 → f2 k = f k) (e2 : ∀ k, k < 86 → a2 k = a k) : (p_hap tx n (n + 1) 0 0 f2 0).2 = (m_rdx tx n nu a2).2.1 ∧ Row (N + 60) (p_hap tx n (n + 1) 0 0 f2 0).1 (m_rdx tx n nu a2).1 := by
  have h60 := h.2.1
  have ht := tz_rd h60 (tx := tx) (n + 1) 0 (n + 1) (m_nu1 tx n nu) (by omega) (by omega) (by omega) ((tz_fault _).trans hf) f2 a2 0 N (h.1.cong e1 e2) (by omega)
  exact ⟨ht.1, ht.2.mono (by omega)⟩
theorem e_in (N : Nat) (k j : Nat) (h : k < 86) {f g : Nat → Int32} : va_cpy f g 0 0 86 k = f k := by
  rw [pk_cpy_in (by omega) (by omega)]
  congr 1
  omega
