/-! events one after the other; the texts that say them -/
def evs (g : Nat) (b : Nat → Nat) : Nat → (Nat → Int32) → (Nat → Int32)
  | 0, f => f
  | k + 1, f => h_change (evs g b k f) g (b k)
def evc (g : Nat) (b : Nat → Nat) : Nat → (Nat → Int32) → Int32
  | 0, _ => 0
  | k + 1, f => if h_look (evs g b k f) (8 + g * 13) (b k) = 0 then evc g b k f + 1 else evc g b k f
theorem evs_n (g : Nat) (b : Nat → Nat) (f : Nat → Int32) (hg : g < 6) : ∀ k, n_end (evs g b k f) = n_end f + evc g b k f
  | 0 => (Int32.add_zero _).symm
  | k + 1 => by
    have e1 : evs g b (k + 1) f = h_change (evs g b k f) g (b k) := rfl
    have e2 : evc g b (k + 1) f = if h_look (evs g b k f) (8 + g * 13) (b k) = 0 then evc g b k f + 1 else evc g b k f := rfl
    rw [e1, e2, n_change _ hg, evs_n g b f hg k]
    split
    · rw [Int32.add_assoc]
    · rfl
theorem evs_inv {N : Nat} {g : Nat} {b : Nat → Nat} {f : Nat → Int32} (hg : g < 6) (hN : N ≤ 100000) (h : Inv N f) : ∀ k, k ≤ 100 → (∀ j, j < k → b j < 3) → Inv (N + k) (evs g b k f)
  | 0, _, _ => h
  | k + 1, hk, hb => inv_change (N := N + k) hg (hb k (by omega)) (by omega) (evs_inv hg hN h k (by omega) (fun j hj => hb j (by omega)))
theorem evs_mir {g : Nat} {b : Nat → Nat} {f f' : Nat → Int32} (hg : g < 6) (h : Mir f f') : ∀ k, Mir (evs g b k f) (evs (5 - g) b k f')
  | 0 => h
  | k + 1 => mir_change (evs_mir hg h k) hg
theorem evc_mir {g : Nat} {b : Nat → Nat} {f f' : Nat → Int32} (hg : g < 6) (h : Mir f f') : ∀ k, evc (5 - g) b k f' = evc g b k f
  | 0 => rfl
  | k + 1 => by
    have e1 : evc (5 - g) b (k + 1) f' = if h_look (evs (5 - g) b k f') (8 + (5 - g) * 13) (b k) = 0 then evc (5 - g) b k f' + 1 else evc (5 - g) b k f' := rfl
    have e2 : evc g b (k + 1) f = if h_look (evs g b k f) (8 + g * 13) (b k) = 0 then evc g b k f + 1 else evc g b k f := rfl
    rw [e1, e2, evc_mir hg h k, mir_look (evs_mir hg h k) hg]
/-- the letter of a beam -/
def ltr (b : Nat) : Nat := if b = 0 then 111 else if b = 1 then 105 else 98
theorem ltr_beam {b : Nat} (h : b < 3) : p_beam (nI (ltr b)) = nI b := by
  rcases (show b = 0 ∨ b = 1 ∨ b = 2 by omega) with z | z | z <;> subst z <;> decide
theorem ltr_59 {b : Nat} (h : b < 3) : ¬ nI (ltr b) = 59 := by
  rcases (show b = 0 ∨ b = 1 ∨ b = 2 by omega) with z | z | z <;> subst z <;> decide
theorem ltr_rng {b : Nat} (h : b < 3) : 33 ≤ ltr b ∧ ltr b < 127 := by
  rcases (show b = 0 ∨ b = 1 ∨ b = 2 by omega) with z | z | z <;> subst z <;> decide
/-- the text of events of the gate d -/
def EvT (tx : Nat → Int32) (d : Nat) (b : Nat → Nat) (m : Nat) : Prop := tx 0 = nI (48 + d) ∧ ∀ j, j < m → tx (j + 1) = nI (ltr (b j))
theorem ev_sa1 {b : Nat} (h : b < 3) : p_sa 1 (nI (ltr b)) = 2 := by
  rcases (show b = 0 ∨ b = 1 ∨ b = 2 by omega) with z | z | z <;> subst z <;> decide
theorem ev_sa2 {b : Nat} (h : b < 3) : p_sa 2 (nI (ltr b)) = 2 := by
  rcases (show b = 0 ∨ b = 1 ∨ b = 2 by omega) with z | z | z <;> subst z <;> decide
theorem ev_sa0 {d : Nat} (h : d < 6) : p_sa 0 (nI (48 + d)) = 1 := by
  rcases (show d = 0 ∨ d = 1 ∨ d = 2 ∨ d = 3 ∨ d = 4 ∨ d = 5 by omega) with z | z | z | z | z | z <;> subst z <;> decide
theorem ev_ff2 {tx : Nat → Int32} {b : Nat → Nat} {m : Nat} (hb : ∀ j, j < m → b j < 3) (ht : ∀ j, j < m → tx (j + 1) = nI (ltr (b j))) : ∀ k a, a + k = m → p_ff tx (m + 1) k (a + 1) 2 = -6
  | 0, _, _ => rfl
  | k + 1, a, h => by
    have e : p_ff tx (m + 1) (k + 1) (a + 1) 2 = if p_sa 2 (tx (a + 1)) = 6 then nI (a + 1) else p_ff tx (m + 1) k (a + 1 + 1) (p_sa 2 (tx (a + 1))) := rfl
    rw [e, ht a (by omega), ev_sa2 (hb a (by omega)), if_neg (by decide)]
    exact ev_ff2 hb ht k (a + 1) (by omega)
theorem ev_ff {tx : Nat → Int32} {d : Nat} {b : Nat → Nat} {m : Nat} (hd : d < 6) (hm : 0 < m) (hb : ∀ j, j < m → b j < 3) (ht : EvT tx d b m) : p_ff tx (m + 1) (m + 1) 0 0 = -6 := by
  obtain ⟨k, rfl⟩ : ∃ k, m = k + 1 := ⟨m - 1, by omega⟩
  have e : p_ff tx (k + 1 + 1) (k + 1 + 1) 0 0 = if p_sa 0 (tx 0) = 6 then nI 0 else p_ff tx (k + 1 + 1) (k + 1) (0 + 1) (p_sa 0 (tx 0)) := rfl
  rw [e, ht.1, ev_sa0 hd, if_neg (by decide)]
  have e2 : p_ff tx (k + 1 + 1) (k + 1) (0 + 1) 1 = if p_sa 1 (tx (0 + 1)) = 6 then nI (0 + 1) else p_ff tx (k + 1 + 1) k (0 + 1 + 1) (p_sa 1 (tx (0 + 1))) := rfl
  rw [e2, ht.2 0 (by omega), ev_sa1 (hb 0 (by omega)), if_neg (by decide)]
  exact ev_ff2 hb ht.2 k 1 (by omega)
theorem ev_cb {tx : Nat → Int32} {d : Nat} {b : Nat → Nat} {m : Nat} {f : Nat → Int32} (hb : ∀ j, j < m → b j < 3) (ht : EvT tx d b m) : ∀ k i, i + k = m → p_cb tx d k (i + 1) (evs d b i f) (evc d b i f) = (evs d b m f, evc d b m f)
  | 0, i, h => by
    have : i = m := by omega
    subst this
    rfl
  | k + 1, i, h => by
    have e : p_cb tx d (k + 1) (i + 1) (evs d b i f) (evc d b i f) = if p_beam (tx (i + 1)) < 0 then p_cb tx d k (i + 1 + 1) (evs d b i f) (evc d b i f) else p_cb tx d k (i + 1 + 1) (h_change (evs d b i f) d (p_beam (tx (i + 1))).toNatClampNeg) (if (evs d b i f (8 + d * 13 + 0) ^^^ b_tb (p_beam (tx (i + 1))).toNatClampNeg) = 0 then evc d b i f + 1 else evc d b i f) := rfl
    have hb3 := hb i (by omega)
    rw [e, ht.2 i (by omega), ltr_beam hb3, if_neg (nI_pos (by omega)), nI_clamp (by omega)]
    exact ev_cb hb ht k (i + 1) (by omega)
theorem ev_hap1 {tx : Nat → Int32} {d : Nat} {b : Nat → Nat} {m : Nat} {f : Nat → Int32} {e : Int32} (hd : d < 6) (hb : ∀ j, j < m → b j < 3) (ht : EvT tx d b m) : ∀ k a, a + k = m → p_hap tx (m + 1) (k + 1) (a + 1) 0 f e = ((p_chb tx 0 (m + 1) f).1, e + (p_chb tx 0 (m + 1) f).2)
  | 0, a, h => by
    have : a = m := by omega
    subst this
    have n46 : ¬ tx 0 = 46 := by
      rw [ht.1]
      rcases (show d = 0 ∨ d = 1 ∨ d = 2 ∨ d = 3 ∨ d = 4 ∨ d = 5 by omega) with z | z | z | z | z | z <;> subst z <;> decide
    have e1 : p_hap tx (a + 1) (0 + 1) (a + 1) 0 f e = if (a + 1 = a + 1 ∨ tx (a + 1) = 59) ∧ 0 < a + 1 then (if tx 0 = 46 then p_hap tx (a + 1) 0 (a + 1 + 1) (a + 1 + 1) (h_let f (p_ni tx (a + 1 - (0 + 1)) (0 + 1) 0)) e else p_hap tx (a + 1) 0 (a + 1 + 1) (a + 1 + 1) (p_chb tx 0 (a + 1) f).1 (e + (p_chb tx 0 (a + 1) f).2)) else p_hap tx (a + 1) 0 (a + 1 + 1) 0 f e := rfl
    rw [e1, if_pos ⟨Or.inl rfl, by omega⟩, if_neg n46]
    rfl
  | k + 1, a, h => by
    have e1 : p_hap tx (m + 1) (k + 1 + 1) (a + 1) 0 f e = if (a + 1 = m + 1 ∨ tx (a + 1) = 59) ∧ 0 < a + 1 then (if tx 0 = 46 then p_hap tx (m + 1) (k + 1) (a + 1 + 1) (a + 1 + 1) (h_let f (p_ni tx (a + 1 - (0 + 1)) (0 + 1) 0)) e else p_hap tx (m + 1) (k + 1) (a + 1 + 1) (a + 1 + 1) (p_chb tx 0 (a + 1) f).1 (e + (p_chb tx 0 (a + 1) f).2)) else p_hap tx (m + 1) (k + 1) (a + 1 + 1) 0 f e := rfl
    rw [e1, if_neg (fun q => q.1.elim (fun z => by omega) (fun z => ltr_59 (hb a (by omega)) (by rw [← ht.2 a (by omega)]; exact z)))]
    exact ev_hap1 hd hb ht k (a + 1) (by omega)
theorem ev_hap {tx : Nat → Int32} {d : Nat} {b : Nat → Nat} {m : Nat} {f : Nat → Int32} (hd : d < 6) (hb : ∀ j, j < m → b j < 3) (ht : EvT tx d b m) : p_hap tx (m + 1) (m + 1 + 1) 0 0 f 0 = (evs d b m f, evc d b m f) := by
  have e1 : p_hap tx (m + 1) (m + 1 + 1) 0 0 f 0 = if (0 = m + 1 ∨ tx 0 = 59) ∧ 0 < 0 then (if tx 0 = 46 then p_hap tx (m + 1) (m + 1) (0 + 1) (0 + 1) (h_let f (p_ni tx (0 - (0 + 1)) (0 + 1) 0)) 0 else p_hap tx (m + 1) (m + 1) (0 + 1) (0 + 1) (p_chb tx 0 0 f).1 (0 + (p_chb tx 0 0 f).2)) else p_hap tx (m + 1) (m + 1) (0 + 1) 0 f 0 := rfl
  rw [e1, if_neg (fun q => absurd q.2 (by omega)), ev_hap1 hd hb ht m 0 (by omega)]
  have g0 : tx 0 - 48 = nI d := by
    rw [ht.1]
    rcases (show d = 0 ∨ d = 1 ∨ d = 2 ∨ d = 3 ∨ d = 4 ∨ d = 5 by omega) with z | z | z | z | z | z <;> subst z <;> decide
  have e2 : p_chb tx 0 (m + 1) f = (evs d b m f, evc d b m f) := by
    have e3 : p_chb tx 0 (m + 1) f = if p_ng (tx 0 - 48) then (f, 0) else p_cb tx (tx 0 - 48).toNatClampNeg (m + 1 - (0 + 1)) (0 + 1) f 0 := rfl
    rw [e3, g0, if_neg (p_ng_no hd), nI_clamp (by omega), show m + 1 - (0 + 1) = m by omega]
    exact ev_cb (f := f) hb ht m 0 (by omega)
  rw [e2]
  simp only [Int32.zero_add]
/-! the text of ticks -/
theorem tk_dig : ∀ c, c < 10 → p_sa 4 (nI (48 + c)) = 5 ∧ (0 < c → p_sa 3 (nI (48 + c)) = 4) ∧ ¬ nI (48 + c) = 59 := by decide +kernel
theorem tk_val1 : ∀ v, v < 10 → (0 * 10 + nI (48 + v) - 48 : Int32) = nI v := by decide +kernel
theorem tk_val2 : ∀ v, v < 100 → ((0 * 10 + nI (48 + v / 10) - 48) * 10 + nI (48 + v % 10) - 48 : Int32) = nI v := by decide +kernel
theorem tk1 {tx : Nat → Int32} {v : Nat} {f : Nat → Int32} (hv : 0 < v ∧ v < 10) (h0 : tx 0 = 46) (h1 : tx 1 = nI (48 + v)) : p_ff tx 2 2 0 0 = -6 ∧ p_hap tx 2 3 0 0 f 0 = (h_let f (nI v), 0) := by
  obtain ⟨d1, d2, d3⟩ := tk_dig v hv.2
  refine ⟨?_, ?_⟩
  · have e : p_ff tx 2 2 0 0 = if p_sa 0 (tx 0) = 6 then nI 0 else if p_sa (p_sa 0 (tx 0)) (tx 1) = 6 then nI 1 else p_ff tx 2 0 2 (p_sa (p_sa 0 (tx 0)) (tx 1)) := rfl
    rw [e, h0, h1, show p_sa 0 46 = 3 from by decide, d2 hv.1]
    rfl
  · have e : p_hap tx 2 3 0 0 f 0 = if (0 = 2 ∨ tx 0 = 59) ∧ 0 < 0 then (if tx 0 = 46 then p_hap tx 2 2 1 1 (h_let f (p_ni tx (0 - (0 + 1)) (0 + 1) 0)) 0 else p_hap tx 2 2 1 1 (p_chb tx 0 0 f).1 (0 + (p_chb tx 0 0 f).2)) else p_hap tx 2 2 1 0 f 0 := rfl
    rw [e, if_neg (fun q => absurd q.2 (by omega))]
    have e : p_hap tx 2 2 1 0 f 0 = if (1 = 2 ∨ tx 1 = 59) ∧ 0 < 1 then (if tx 0 = 46 then p_hap tx 2 1 2 2 (h_let f (p_ni tx (1 - (0 + 1)) (0 + 1) 0)) 0 else p_hap tx 2 1 2 2 (p_chb tx 0 1 f).1 (0 + (p_chb tx 0 1 f).2)) else p_hap tx 2 1 2 0 f 0 := rfl
    rw [e, if_neg (fun q => q.1.elim (fun z => by omega) (fun z => d3 (h1 ▸ z)))]
    have e : p_hap tx 2 1 2 0 f 0 = if (2 = 2 ∨ tx 2 = 59) ∧ 0 < 2 then (if tx 0 = 46 then p_hap tx 2 0 3 3 (h_let f (p_ni tx (2 - (0 + 1)) (0 + 1) 0)) 0 else p_hap tx 2 0 3 3 (p_chb tx 0 2 f).1 (0 + (p_chb tx 0 2 f).2)) else p_hap tx 2 0 3 0 f 0 := rfl
    rw [e, if_pos ⟨Or.inl rfl, by omega⟩, if_pos h0]
    have e : p_ni tx (2 - (0 + 1)) (0 + 1) 0 = 0 * 10 + tx 1 - 48 := rfl
    rw [e, h1, tk_val1 v hv.2]
    rfl
theorem tk2 {tx : Nat → Int32} {v : Nat} {f : Nat → Int32} (hv : 10 ≤ v ∧ v < 100) (h0 : tx 0 = 46) (h1 : tx 1 = nI (48 + v / 10)) (h2 : tx 2 = nI (48 + v % 10)) : p_ff tx 3 3 0 0 = -6 ∧ p_hap tx 3 4 0 0 f 0 = (h_let f (nI v), 0) := by
  obtain ⟨d1, d2, d3⟩ := tk_dig (v / 10) (by omega)
  obtain ⟨d4, d5, d6⟩ := tk_dig (v % 10) (by omega)
  refine ⟨?_, ?_⟩
  · have e : p_ff tx 3 3 0 0 = if p_sa 0 (tx 0) = 6 then nI 0 else if p_sa (p_sa 0 (tx 0)) (tx 1) = 6 then nI 1 else if p_sa (p_sa (p_sa 0 (tx 0)) (tx 1)) (tx 2) = 6 then nI 2 else p_ff tx 3 0 3 (p_sa (p_sa (p_sa 0 (tx 0)) (tx 1)) (tx 2)) := rfl
    rw [e, h0, h1, h2, show p_sa 0 46 = 3 from by decide, d2 (by omega), d4]
    rfl
  · have e : p_hap tx 3 4 0 0 f 0 = if (0 = 3 ∨ tx 0 = 59) ∧ 0 < 0 then (if tx 0 = 46 then p_hap tx 3 3 1 1 (h_let f (p_ni tx (0 - (0 + 1)) (0 + 1) 0)) 0 else p_hap tx 3 3 1 1 (p_chb tx 0 0 f).1 (0 + (p_chb tx 0 0 f).2)) else p_hap tx 3 3 1 0 f 0 := rfl
    rw [e, if_neg (fun q => absurd q.2 (by omega))]
    have e : p_hap tx 3 3 1 0 f 0 = if (1 = 3 ∨ tx 1 = 59) ∧ 0 < 1 then (if tx 0 = 46 then p_hap tx 3 2 2 2 (h_let f (p_ni tx (1 - (0 + 1)) (0 + 1) 0)) 0 else p_hap tx 3 2 2 2 (p_chb tx 0 1 f).1 (0 + (p_chb tx 0 1 f).2)) else p_hap tx 3 2 2 0 f 0 := rfl
    rw [e, if_neg (fun q => q.1.elim (fun z => by omega) (fun z => d3 (h1 ▸ z)))]
    have e : p_hap tx 3 2 2 0 f 0 = if (2 = 3 ∨ tx 2 = 59) ∧ 0 < 2 then (if tx 0 = 46 then p_hap tx 3 1 3 3 (h_let f (p_ni tx (2 - (0 + 1)) (0 + 1) 0)) 0 else p_hap tx 3 1 3 3 (p_chb tx 0 2 f).1 (0 + (p_chb tx 0 2 f).2)) else p_hap tx 3 1 3 0 f 0 := rfl
    rw [e, if_neg (fun q => q.1.elim (fun z => by omega) (fun z => d6 (h2 ▸ z)))]
    have e : p_hap tx 3 1 3 0 f 0 = if (3 = 3 ∨ tx 3 = 59) ∧ 0 < 3 then (if tx 0 = 46 then p_hap tx 3 0 4 4 (h_let f (p_ni tx (3 - (0 + 1)) (0 + 1) 0)) 0 else p_hap tx 3 0 4 4 (p_chb tx 0 3 f).1 (0 + (p_chb tx 0 3 f).2)) else p_hap tx 3 0 4 0 f 0 := rfl
    rw [e, if_pos ⟨Or.inl rfl, by omega⟩, if_pos h0]
    have e : p_ni tx (3 - (0 + 1)) (0 + 1) 0 = (0 * 10 + tx 1 - 48) * 10 + tx 2 - 48 := rfl
    rw [e, h1, h2, tk_val2 v hv.2]
    rfl
/-- one character, put -/
theorem ch_num : ∀ c, c < 127 → 33 ≤ c → p_num (nI c).toInt64 8 0 = nI 1 ∧ p_code (nI c).toInt64 0 = nI c := by decide +kernel
/-! passing: ticks block gates and free none -/
theorem ps_pop (f : Nat → Int32) : b_bc (h_bm f 6) = 0 + h_tell f 0 4 + h_tell f 1 4 + h_tell f 2 4 + h_tell f 3 4 + h_tell f 4 4 + h_tell f 5 4 := by
  rw [bm6, pop6, b01_i, b01_i, b01_i, b01_i, b01_i, b01_i]
  rfl
theorem and6 : ∀ a0 a1 a2 a3 a4 a5 : Bool, ∀ c0 c1 c2 c3 c4 c5 : Bool, (m6 (a0 || c0) (a1 || c1) (a2 || c2) (a3 || c3) (a4 || c4) (a5 || c5) &&& m6 a0 a1 a2 a3 a4 a5) = m6 a0 a1 a2 a3 a4 a5 := by decide +kernel
theorem or_of {p q : Prop} [Decidable p] [Decidable q] (h : p → q) : decide q = (decide p || decide q) := by
  by_cases c : p
  · rw [decide_eq_true c, decide_eq_true (h c)]
    rfl
  · rw [decide_eq_false c, Bool.false_or]
section PS
variable {N : Nat} {f : Nat → Int32} {t : Int32}
theorem go_0 (f : Nat → Int32) (t : Int32) {j : Nat} (h : j ≠ 3) : h_goBy f t j = f j := pk_un h
theorem go_3 (f : Nat → Int32) (t : Int32) : h_goBy f t 3 = f 3 + t := pk_us
theorem ps_blk (hN : N ≤ 1000000) (ht : 0 ≤ t.toInt ∧ t.toInt ≤ 1000) (h : Inv N f) {g : Nat} (hg : g < 6) : h_blk (h_goBy f t) g ↔ (h_blk f g ∨ (cand f g ∧ (h_left f g).toInt ≤ t.toInt)) := by
  have hh := id h
  obtain ⟨⟨H0, H3, H4⟩, hG⟩ := h
  obtain ⟨l4, l5⟩ := (hG g hg).1
  by_cases b : f (8 + g * 13 + 0) = 0
  · refine ⟨fun z => ?_, fun z => z.elim (fun q => absurd b q.1) (fun q => absurd b q.1.1)⟩
    have := z.1
    rw [go_0 _ _ (by omega)] at this
    exact absurd b this
  · have q := (l5.resolve_left b).1
    have e3 : (f 3 + t).toInt = (f 3).toInt + t.toInt := i_add (by omega) (by omega)
    have e4 : (f 3 + t - f (8 + g * 13 + 1)).toInt = (f 3).toInt + t.toInt - (f (8 + g * 13 + 1)).toInt := by
      rw [i_sub (by rw [e3]; omega) (by rw [e3]; omega), e3]
    have e5 : (f 3 - f (8 + g * 13 + 1)).toInt = (f 3).toInt - (f (8 + g * 13 + 1)).toInt := i_sub (by omega) (by omega)
    unfold h_blk
    rw [go_0 f t (j := 8 + g * 13 + 0) (by omega), go_0 f t (j := 8 + g * 13 + 1) (by omega), go_0 f t (j := 0) (by omega), go_3, i_lt, i_lt, e4, e5]
    constructor
    · intro z
      by_cases z2 : (f 3).toInt - (f (8 + g * 13 + 1)).toInt < (f 0).toInt
      · have cn : cand f g := ⟨b, fun w => w.2 (by rw [i_lt, e5]; exact z2)⟩
        refine Or.inr ⟨cn, ?_⟩
        rw [(cand_left hg hN hh cn).1]
        omega
      · exact Or.inl ⟨b, z2⟩
    · intro z
      refine ⟨b, ?_⟩
      rcases z with z | ⟨z, z2⟩
      · omega
      · rw [(cand_left hg hN hh z).1] at z2
        omega
theorem ps_and (hN : N ≤ 1000000) (ht : 0 ≤ t.toInt ∧ t.toInt ≤ 1000) (h : Inv N f) : (h_bm (h_goBy f t) 6 &&& h_bm f 6) = h_bm f 6 := by
  have i : ∀ g, g < 6 → (h_blk f g → h_blk (h_goBy f t) g) := fun g hg z => (ps_blk hN ht h hg).mpr (Or.inl z)
  rw [bm6 f, bm6 (h_goBy f t), or_of (i 0 (by omega)), or_of (i 1 (by omega)), or_of (i 2 (by omega)), or_of (i 3 (by omega)), or_of (i 4 (by omega)), or_of (i 5 (by omega))]
  exact and6 _ _ _ _ _ _ _ _ _ _ _ _
theorem ps_eq (hN : N ≤ 1000000) (ht : 0 ≤ t.toInt ∧ t.toInt ≤ 1000) (h : Inv N f) : h_bm (h_goBy f t) 6 = h_bm f 6 ↔ (h_ub f 6 < 0 ∨ t < h_ub f 6) := by
  have mk : (∀ g, g < 6 → ¬ (cand f g ∧ (h_left f g).toInt ≤ t.toInt)) → h_bm (h_goBy f t) 6 = h_bm f 6 := fun z => by
    have i : ∀ g, g < 6 → decide (h_blk (h_goBy f t) g) = decide (h_blk f g) := fun g hg => decide_eq_decide.mpr ⟨fun w => ((ps_blk hN ht h hg).mp w).resolve_right (z g hg), fun w => (ps_blk hN ht h hg).mpr (Or.inl w)⟩
    rw [bm6 f, bm6 (h_goBy f t), i 0 (by omega), i 1 (by omega), i 2 (by omega), i 3 (by omega), i 4 (by omega), i 5 (by omega)]
  rw [i_lt, i_lt, i_0]
  rcases us_ub hN h 6 (by omega) with ⟨h1, h2⟩ | ⟨g, h0, h1, h2, h3⟩
  · refine ⟨fun _ => Or.inl (by rw [h1, i_6]; omega), fun _ => mk (fun g hg z => h2 g hg z.1)⟩
  · have hl := cand_left h0 hN h h1
    constructor
    · intro e
      refine Classical.byContradiction fun z => ?_
      have c1 : h_blk (h_goBy f t) g := (ps_blk hN ht h h0).mpr (Or.inr ⟨h1, by rw [← h2]; omega⟩)
      have b1 := bit_bm f h0
      have b2 := bit_bm (h_goBy f t) h0
      rw [e, b1, b_i_f h1.2, b_i_t c1] at b2
      exact absurd b2 (by decide)
    · intro z
      refine mk (fun j hj w => ?_)
      have := h3 j hj w.1
      rw [h2] at z this
      have := hl.2.1
      omega
end PS
