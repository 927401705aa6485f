/-! the two houses, step by step -/
def SlR (N : Nat) (σ ρ : HS) : Prop := ∀ t, t < 2 → (sSv σ t = 0 ∧ sSv ρ t = 0) ∨ ((¬ sSv σ t = 0) ∧ (¬ sSv ρ t = 0) ∧ Inv N (sSL σ t) ∧ Inv N (sSL ρ t) ∧ Mir (sSL σ t) (sSL ρ t))
def Rel (N : Nat) (σ ρ : HS) : Prop := (sOk σ ∧ sOk ρ) ∧ (Inv N σ.1 ∧ Inv N ρ.1 ∧ Mir σ.1 ρ.1) ∧ SlR N σ ρ
theorem Rel.mk {N M : Nat} {σ ρ τ υ : HS} (h : Rel N σ ρ) (hm : N ≤ M) (o1 : sOk τ) (o2 : sOk υ) (i1 : Inv M τ.1) (i2 : Inv M υ.1) (hM : Mir τ.1 υ.1) (e1 : sSL τ = sSL σ) (e2 : sSv τ = sSv σ) (e3 : sSL υ = sSL ρ) (e4 : sSv υ = sSv ρ) : Rel M τ υ := by
  refine ⟨⟨o1, o2⟩, ⟨i1, i2, hM⟩, fun t ht => ?_⟩
  rw [e1, e2, e3, e4]
  exact (h.2.2 t ht).imp id (fun q => ⟨q.1, q.2.1, q.2.2.1.mono hm, q.2.2.2.1.mono hm, q.2.2.2.2⟩)
theorem Rel.mono {N M : Nat} {σ ρ : HS} (h : Rel N σ ρ) (hm : N ≤ M) : Rel M σ ρ := h.mk hm h.1.1 h.1.2 (h.2.1.1.mono hm) (h.2.1.2.1.mono hm) h.2.1.2.2 rfl rfl rfl rfl
theorem Rel.save {N : Nat} {σ ρ : HS} {w : Nat} (h : Rel N σ ρ) (hw : w < 2) : Rel N (sSave σ w) (sSave ρ w) := by
  obtain ⟨⟨o1, o2⟩, ⟨i1, i2, hM⟩, hs⟩ := h
  refine ⟨⟨o1.save w, o2.save w⟩, ⟨i1, i2, hM⟩, fun t ht => ?_⟩
  have ein : ∀ (a b : Nat → Int32) (k : Nat), k < 86 → va_cpy a b 0 0 86 k = a k := fun a b k hk => by
    rw [pk_cpy_in (by omega) (by omega)]
    congr 1
    omega
  show (upd (sSv σ) w 1 t = 0 ∧ upd (sSv ρ) w 1 t = 0) ∨ ((¬ upd (sSv σ) w 1 t = 0) ∧ (¬ upd (sSv ρ) w 1 t = 0) ∧ Inv N (va_up (sSL σ) w (va_cpy σ.1 (sSL σ w) 0 0 86) t) ∧ Inv N (va_up (sSL ρ) w (va_cpy ρ.1 (sSL ρ w) 0 0 86) t) ∧ Mir (va_up (sSL σ) w (va_cpy σ.1 (sSL σ w) 0 0 86) t) (va_up (sSL ρ) w (va_cpy ρ.1 (sSL ρ w) 0 0 86) t))
  by_cases c : t = w
  · subst c
    rw [pk_us, pk_us, va_up_self, va_up_self]
    exact Or.inr ⟨by decide, by decide, i1.cong (ein _ _), i2.cong (ein _ _), hM.cong (ein _ _) (ein _ _)⟩
  · rw [pk_un c, pk_un c, va_up_ne _ _ c, va_up_ne _ _ c]
    exact hs t ht
theorem Rel.slot {N : Nat} {σ ρ : HS} {w : Nat} (h : Rel N σ ρ) (hw : w < 2) (c : ¬ sSv σ w = 0) : (¬ sSv ρ w = 0) ∧ Inv N (va_cpy (sSL σ w) σ.1 0 0 86) ∧ Inv N (va_cpy (sSL ρ w) ρ.1 0 0 86) ∧ Mir (va_cpy (sSL σ w) σ.1 0 0 86) (va_cpy (sSL ρ w) ρ.1 0 0 86) := by
  have ein : ∀ (a b : Nat → Int32) (k : Nat), k < 86 → va_cpy a b 0 0 86 k = a k := fun a b k hk => by
    rw [pk_cpy_in (by omega) (by omega)]
    congr 1
    omega
  rcases h.2.2 w hw with ⟨q, -⟩ | ⟨-, q2, q3, q4, q5⟩
  · exact absurd q c
  · exact ⟨q2, q3.cong (ein _ _), q4.cong (ein _ _), q5.cong (ein _ _) (ein _ _)⟩
theorem Rel.slot0 {N : Nat} {σ ρ : HS} {w : Nat} (h : Rel N σ ρ) (hw : w < 2) (c : sSv σ w = 0) : sSv ρ w = 0 := by
  rcases h.2.2 w hw with ⟨-, q⟩ | ⟨q, -⟩
  · exact q
  · exact absurd c q
/-! set -/
theorem st_rng {s1 v : Nat} (hs : s1 < 3) (h : (s1 = 0 → 1 ≤ v ∧ v ≤ 200) ∧ (s1 = 1 → v ≤ 50) ∧ (s1 = 2 → 1 ≤ v ∧ v ≤ 500)) : (¬ nI v < b_lo s1) ∧ nI v ≤ b_hi s1 ∧ (s1 = 0 → 1 ≤ (nI v).toInt ∧ (nI v).toInt ≤ 200) := by
  have hv : v ≤ 500 := by omega
  have e := nI_toInt (n := v) (by omega)
  rw [i_lt, i_le, e]
  rcases (show s1 = 0 ∨ s1 = 1 ∨ s1 = 2 by omega) with z | z | z <;> subst z
  · have a : (b_lo 0).toInt = 1 := by decide
    have b : (b_hi 0).toInt = 200 := by decide
    rw [a, b]
    omega
  · have a : (b_lo 1).toInt = 0 := by decide
    have b : (b_hi 1).toInt = 50 := by decide
    rw [a, b]
    omega
  · have a : (b_lo 2).toInt = 1 := by decide
    have b : (b_hi 2).toInt = 500 := by decide
    rw [a, b]
    omega
theorem Rel.set {N M : Nat} {σ ρ : HS} {s1 : Nat} {x : Int32} (h : Rel N σ ρ) (hm : N ≤ M) (hs : s1 < 3) (hx : s1 = 0 → 1 ≤ x.toInt ∧ x.toInt ≤ 200) : Rel M (sKeep σ (upd σ.1 s1 x) (sN σ)) (sKeep ρ (upd ρ.1 s1 x) (sN ρ)) :=
  h.mk hm (h.1.1.keep _ h.1.1.1) (h.1.2.keep _ h.1.2.1) ((inv_set hs hx h.2.1.1).mono hm) ((inv_set hs hx h.2.1.2.1).mono hm) (h.2.1.2.2.updh (by omega)) rfl rfl rfl rfl
/-! ticks -/
def h_bits (f : Nat → Int32) : Nat → Int32
  | 0 => 0
  | k + 1 => h_bits f k + h_tell f k 4
theorem ps_bits (f : Nat → Int32) : b_bc (h_bm f 6) = h_bits f 6 := ps_pop f
theorem tk_rng {t : Nat} (h : 0 < t ∧ t ≤ 99) : (0 ≤ (nI t).toInt ∧ (nI t).toInt ≤ 99) ∧ (¬ nI t < 1) ∧ nI t ≤ 999 := by
  have e := nI_toInt (n := t) (by omega)
  refine ⟨by rw [e]; omega, ?_, ?_⟩
  · rw [i_lt, i_1, e]
    omega
  · rw [i_le, e, show (999 : Int32).toInt = 999 from by decide]
    omega
theorem tk_big {N : Nat} {f : Nat → Int32} {t : Nat} (hN : N ≤ 50000) (h : Inv N f) (ht : 0 < t ∧ t ≤ 99) : ¬ 99999 < f 3 + nI t := by
  have H3 := h.1.2.1
  have e := nI_toInt (n := t) (by omega)
  rw [i_lt, i_big, i_add (by omega) (by omega), e]
  omega
theorem tk_let {N : Nat} {f : Nat → Int32} {t : Nat} (hN : N ≤ 50000) (h : Inv N f) (ht : 0 < t ∧ t ≤ 99) : h_let f (nI t) = h_goBy f (nI t) := by
  unfold h_let
  rw [if_pos (tk_big hN h ht)]
theorem sPut_T (σ : HS) (c : Nat) (hc : 33 ≤ c ∧ c < 127) : sT (sPut σ c) = upd (sT σ) (sN σ) (nI c) := by
  show upd (sT σ) (sN σ) (p_code (nI c).toInt64 0) = _
  rw [(ch_num c hc.2 hc.1).2]
theorem tk_text {ρ : HS} {t : Nat} (ht : 0 < t ∧ t ≤ 99) : let τ := sNum (sPut (sText ρ 0 (sT ρ)) 46) t; p_ff (sT τ) (sN τ) (sN τ) 0 0 = -6 ∧ (∀ f, p_hap (sT τ) (sN τ) (sN τ + 1) 0 0 f 0 = (h_let f (nI t), 0)) ∧ sN τ ≤ 60 := by
  intro τ
  have e0 : sT (sPut (sText ρ 0 (sT ρ)) 46) = upd (sT ρ) 0 (nI 46) := sPut_T (sText ρ 0 (sT ρ)) 46 (by omega)
  have n0 : sN (sPut (sText ρ 0 (sT ρ)) 46) = 1 := rfl
  by_cases c : t < 10
  · have eτ : τ = sPut (sPut (sText ρ 0 (sT ρ)) 46) (48 + t % 10) := by
      show sNum _ t = _
      unfold sNum
      rw [if_pos c]
    have e1 : sT τ = upd (upd (sT ρ) 0 (nI 46)) 1 (nI (48 + t)) := by
      rw [eτ, sPut_T _ _ (by omega), e0, n0, show t % 10 = t by omega]
    have n1 : sN τ = 2 := by
      rw [eτ]
      rfl
    have a0 : sT τ 0 = 46 := by
      rw [e1, pk_un (by omega), pk_us]
      decide
    have a1 : sT τ 1 = nI (48 + t) := by
      rw [e1, pk_us]
    rw [n1]
    exact ⟨(tk1 (f := fun _ => 0) ⟨ht.1, c⟩ a0 a1).1, fun f => (tk1 ⟨ht.1, c⟩ a0 a1).2, by omega⟩
  · have eτ : τ = sPut (sPut (sPut (sText ρ 0 (sT ρ)) 46) (48 + t / 10)) (48 + t % 10) := by
      show sNum _ t = _
      unfold sNum
      rw [if_neg c]
    have n2 : sN (sPut (sPut (sText ρ 0 (sT ρ)) 46) (48 + t / 10)) = 2 := rfl
    have e1 : sT τ = upd (upd (upd (sT ρ) 0 (nI 46)) 1 (nI (48 + t / 10))) 2 (nI (48 + t % 10)) := by
      rw [eτ, sPut_T _ _ (by omega), n2, sPut_T _ _ (by omega), e0, n0]
    have n1 : sN τ = 3 := by
      rw [eτ]
      rfl
    have a0 : sT τ 0 = 46 := by
      rw [e1, pk_un (by omega), pk_un (by omega), pk_us]
      decide
    have a1 : sT τ 1 = nI (48 + t / 10) := by
      rw [e1, pk_un (by omega), pk_us]
    have a2 : sT τ 2 = nI (48 + t % 10) := by
      rw [e1, pk_us]
    rw [n1]
    exact ⟨(tk2 (f := fun _ => 0) ⟨by omega, by omega⟩ a0 a1 a2).1, fun f => (tk2 ⟨by omega, by omega⟩ a0 a1 a2).2, by omega⟩
theorem sNum_keeps (σ : HS) (t : Nat) : (sNum σ t).1 = σ.1 ∧ (sNum σ t).2.2.2.2 = σ.2.2.2.2 := by
  unfold sNum
  split
  · exact ⟨rfl, rfl⟩
  · exact ⟨rfl, rfl⟩
theorem ps_bool {N t : Nat} {f : Nat → Int32} (hN : N ≤ 50000) (h : Inv N f) (ht : 0 < t ∧ t ≤ 99) : (if h_bm (h_goBy f (nI t)) 6 = h_bm f 6 then (1 : Int32) else 0) = (if h_ub f 6 < 0 then 1 else if h_ub f 6 ≤ nI t then 0 else 1) := by
  have k := ps_eq (t := nI t) (by omega) (by have := (tk_rng ht).1; omega) h
  by_cases c1 : h_ub f 6 < 0
  · rw [if_pos c1, if_pos (k.mpr (Or.inl c1))]
  · by_cases c2 : h_ub f 6 ≤ nI t
    · rw [if_neg c1, if_pos c2, if_neg (fun z => ?_)]
      rcases k.mp z with q | q
      · exact c1 q
      · rw [i_lt] at q
        rw [i_le] at c2
        omega
    · rw [if_neg c1, if_neg c2, if_pos (k.mpr (Or.inr ?_))]
      rw [i_le] at c2
      rw [i_lt]
      omega
theorem Rel.ticks {N : Nat} {σ ρ τ : HS} {t : Nat} (h : Rel N σ ρ) (hN : N ≤ 50000) (ht : 0 < t ∧ t ≤ 99) (o : sOk τ) (e1 : τ.1 = ρ.1) (e2 : τ.2.2.2.2 = ρ.2.2.2.2) : Rel (N + 100) (sKeep σ (h_goBy σ.1 (nI t)) (sN σ)) (sKeep τ (h_goBy ρ.1 (nI t)) 0) := by
  have r := (tk_rng ht).1
  refine h.mk (by omega) (h.1.1.keep _ h.1.1.1) (o.keep _ (by omega)) ((inv_goBy (k := 99) (by omega) r (by omega) h.2.1.1).1.mono (by omega)) ((inv_goBy (k := 99) (by omega) r (by omega) h.2.1.2.1).1.mono (by omega)) (mir_goBy h.2.1.2.2) rfl rfl ?_ ?_
  · show τ.2.2.2.2.2.2.2.1 = ρ.2.2.2.2.2.2.2.1
    rw [e2]
  · show τ.2.2.2.2.2.2.2.2 = ρ.2.2.2.2.2.2.2.2
    rw [e2]
/-! correct -/
theorem co_rng {v : Nat} (h : v ≤ 999) : (0 ≤ (nI v).toInt ∧ (nI v).toInt ≤ 999) ∧ (¬ nI v < 0) ∧ nI v ≤ 999 := by
  have e := nI_toInt (n := v) (by omega)
  refine ⟨by rw [e]; omega, nI_pos (by omega), ?_⟩
  rw [i_le, e, show (999 : Int32).toInt = 999 from by decide]
  omega
theorem Rel.correct {N M : Nat} {σ ρ : HS} {x : Int32} (h : Rel N σ ρ) (hm : N ≤ M) (hx : 0 ≤ x.toInt ∧ x.toInt ≤ 999) : Rel M (sKeep σ (h_become σ.1 x) (sN σ)) (sKeep ρ (h_become ρ.1 x) (sN ρ)) :=
  h.mk hm (h.1.1.keep _ h.1.1.1) (h.1.2.keep _ h.1.2.1) ((inv_become hx h.2.1.1).mono hm) ((inv_become hx h.2.1.2.1).mono hm) (mir_become h.2.1.2.2) rfl rfl rfl rfl
/-! clear -/
theorem fr_8 (f : Nat → Int32) {g : Nat} : h_tell (h_free f g) g 8 = h_tell f g 8 + 1 := by
  rw [t_8, t_8]
  unfold h_free
  rw [v_end_l (by rw [pk_us]), pk_us, pk_un (by omega), pk_un (by omega)]
theorem fr_0 (f : Nat → Int32) {g : Nat} : h_free f g (8 + g * 13 + 0) = 0 := by
  unfold h_free
  rw [v_end_o (by omega) (by omega) (by omega), pk_un (by omega), pk_us]
theorem fr_4 (f : Nat → Int32) {g : Nat} : h_free f g 4 = f 4 := by
  unfold h_free
  rw [v_end_l (by rw [pk_us]), pk_un (by omega), v_end1_o (by omega), pk_un (by omega), pk_un (by omega)]
theorem Rel.clear {N M : Nat} {σ ρ : HS} {g : Nat} (h : Rel N σ ρ) (hm : N + 1 ≤ M) (hN : N ≤ 50000) (hg : g < 6) : Rel M (sKeep σ (h_free σ.1 g) (sN σ)) (sKeep ρ (h_free ρ.1 (5 - g)) (sN ρ)) :=
  h.mk (by omega) (h.1.1.keep _ h.1.1.1) (h.1.2.keep _ h.1.2.1) ((inv_free hg (by omega) h.2.1.1).mono hm) ((inv_free (by omega) (by omega) h.2.1.2.1).mono hm) (mir_free h.2.1.2.2 hg) rfl rfl rfl rfl
/-! restore -/
theorem rs_4 {f f' a a' : Nat → Int32} (h : Mir (va_cpy a f 0 0 86) (va_cpy a' f' 0 0 86)) : va_cpy a f 0 0 86 4 = va_cpy a' f' 0 0 86 4 := (h.1 4 (by omega)).symm
theorem Rel.restore {N M : Nat} {σ ρ : HS} {w : Nat} (h : Rel N σ ρ) (hm : N ≤ M) (hw : w < 2) (c : ¬ sSv σ w = 0) : Rel M (sKeep σ (va_cpy (sSL σ w) σ.1 0 0 86) (sN σ)) (sKeep ρ (va_cpy (sSL ρ w) ρ.1 0 0 86) (sN ρ)) := by
  obtain ⟨-, q1, q2, q3⟩ := h.slot hw c
  exact h.mk hm (h.1.1.keep _ h.1.1.1) (h.1.2.keep _ h.1.2.1) (q1.mono hm) (q2.mono hm) q3 rfl rfl rfl rfl
/-! events -/
theorem evs_cong {g : Nat} {b b' : Nat → Nat} {f : Nat → Int32} : ∀ k, (∀ j, j < k → b' j = b j) → evs g b' k f = evs g b k f
  | 0, _ => rfl
  | k + 1, h => by
    show h_change (evs g b' k f) g (b' k) = h_change (evs g b k f) g (b k)
    rw [evs_cong k (fun j hj => h j (by omega)), h k (by omega)]
def bput (b : Nat → Nat) (k v : Nat) : Nat → Nat := fun j => if j = k then v else b j
theorem evs_put {g : Nat} {b : Nat → Nat} {k v : Nat} {f : Nat → Int32} : evs g (bput b k v) (k + 1) f = h_change (evs g b k f) g v := by
  show h_change (evs g (bput b k v) k f) g (bput b k v k) = _
  rw [evs_cong (b := b) (b' := bput b k v) k (fun j hj => if_neg (by omega)), show bput b k v k = v from if_pos rfl]
theorem bput_lt {b : Nat → Nat} {k v : Nat} (h : ∀ j, j < k → b j < 3) (hv : v < 3) : ∀ j, j < k + 1 → bput b k v j < 3 := fun j hj => by
  unfold bput
  split
  · exact hv
  · exact h j (by omega)
theorem EvT.put {tx : Nat → Int32} {d k v : Nat} {b : Nat → Nat} (h : EvT tx d b k) (hv : v < 3) : EvT (upd tx (k + 1) (p_code (nI (ltr v)).toInt64 0)) d (bput b k v) (k + 1) := by
  refine ⟨by rw [pk_un (by omega)]; exact h.1, fun j hj => ?_⟩
  by_cases e : j = k
  · subst e
    rw [pk_us, (ch_num _ (ltr_rng hv).2 (ltr_rng hv).1).2, show bput b j v j = v from if_pos rfl]
  · rw [pk_un (by omega), h.2 j (by omega), show bput b k v j = b j from if_neg e]
theorem EvT.new {tx : Nat → Int32} {d : Nat} {b : Nat → Nat} (hd : d < 6) : EvT (upd tx 0 (p_code (nI (48 + d)).toInt64 0)) d b 0 :=
  ⟨by rw [pk_us, (ch_num _ (by omega) (by omega)).2], fun j hj => absurd hj (by omega)⟩
theorem ev_told {g n : Nat} {b : Nat → Nat} {f f' : Nat → Int32} (hg : g < 6) (h : Mir f f') : evc (5 - g) b n f' = n_end (evs g b n f) - n_end f := by
  rw [evs_n g b f hg, evc_mir hg h, Int32.add_comm, Int32.add_sub_cancel]
theorem Rel.events {N n : Nat} {σ ρ τ υ : HS} {g : Nat} {b : Nat → Nat} (h : Rel N σ ρ) (hN : N ≤ 50000) (hg : g < 6) (hn : n ≤ 4) (hb : ∀ j, j < n → b j < 3) (o1 : sOk τ) (o2 : sOk υ) (e1 : τ.1 = evs g b n σ.1) (e2 : υ.1 = evs (5 - g) b n ρ.1) (s1 : sSL τ = sSL σ) (s2 : sSv τ = sSv σ) (s3 : sSL υ = sSL ρ) (s4 : sSv υ = sSv ρ) : Rel (N + 100) τ υ := by
  refine h.mk (by omega) o1 o2 ?_ ?_ ?_ s1 s2 s3 s4
  · rw [e1]
    exact (evs_inv hg (by omega) h.2.1.1 n (by omega) hb).mono (by omega)
  · rw [e2]
    exact (evs_inv (by omega) (by omega) h.2.1.2.1 n (by omega) hb).mono (by omega)
  · rw [e1, e2]
    exact evs_mir hg h.2.1.2.2 n
