/-! what isWell asks -/
def w_way (f : Nat → Int32) (g : Nat) : Int32 := if f (8 + g * 13 + 0) = 0 then 0 else 1
section WE
variable {N : Nat} {f : Nat → Int32} {g : Nat}
theorem w_a (h : Inv N f) : ¬ f 4 < 0 := fun q => by
  have := h.1.2.2.1
  rw [i_lt, i_0] at q
  omega
theorem w_b (h : Inv N f) : ¬ f 5 < f 4 := fun q => by
  have := h.1.2.2.2.1
  rw [i_lt] at q
  omega
theorem w_m1 (c : h_thr f g ≤ (h_bus f g).2) : (h_bus f g).2 = (h_bus f (g + 1)).2 := by
  have e : h_bus f (g + 1) = if h_thr f g ≤ (h_bus f g).2 then h_bus f g else (nI g, h_thr f g) := rfl
  rw [e, if_pos c]
theorem w_m2 (c : ¬ h_thr f g ≤ (h_bus f g).2) : h_thr f g = (h_bus f (g + 1)).2 := by
  have e : h_bus f (g + 1) = if h_thr f g ≤ (h_bus f g).2 then h_bus f g else (nI g, h_thr f g) := rfl
  rw [e, if_neg c]
theorem ne6 {x : Int32} (hx : 0 ≤ x.toInt) : ¬ x = -6 := fun z => by rw [z, i_6] at hx; omega
theorem w_1 (hg : g < 6) (h : Inv N f) : w_way f g = (if h_tell f g 1 = -6 then 0 else 1) := by
  unfold w_way
  rw [t_1]
  by_cases b : f (8 + g * 13 + 0) = 0
  · rw [if_pos b, if_neg (show ¬ ¬ f (8 + g * 13 + 0) = 0 from fun z => z b), if_pos rfl]
  · rw [if_neg b, if_pos b, if_neg (ne6 ((h.2 g hg).1.2.resolve_left b).1.1)]
theorem w_2 (hg : g < 6) : w_way f g = (if ((h_um f 6 >>> (nI g &&& 31)) &&& 1) = 1 then 1 else 0) := by
  unfold w_way
  rw [bit_um f hg]
  by_cases b : f (8 + g * 13 + 0) = 0
  · rw [if_pos b, b_i_f (fun z => z b), if_neg (by decide)]
  · rw [if_neg b, b_i_t b, if_pos rfl]
theorem w_3 (hg : g < 6) : ((h_bm f 6 >>> (nI g &&& 31)) &&& 1) = h_tell f g 4 := bit_bm f hg
theorem w_4 (c : ¬ w_way f g = 0) : h_tell f g 4 = (if f 3 - h_tell f g 1 < f 0 then 0 else 1) := by
  have b : ¬ f (8 + g * 13 + 0) = 0 := fun z => c (by unfold w_way; rw [if_pos z])
  rw [t_4, t_1, if_pos b]
  by_cases q : f 3 - f (8 + g * 13 + 1) < f 0
  · rw [if_pos q, b_i_f (fun z => z.2 q)]
  · rw [if_neg q, b_i_t ⟨b, q⟩]
theorem w_5 (c : w_way f g = 0) : h_tell f g 4 = 0 := by
  have b : f (8 + g * 13 + 0) = 0 := Classical.byContradiction fun z => by
    unfold w_way at c
    rw [if_neg z] at c
    exact absurd c (by decide)
  rw [t_4, b_i_f (fun z => z.1 b)]
theorem w_thr (hg : g < 6) (hN : N ≤ 1000000) (h : Inv N f) : (h_thr f g).toInt = (f (8 + g * 13 + 5)).toInt + (f (8 + g * 13 + 6)).toInt := by
  obtain ⟨c5, c6, -, -⟩ := (h.2 g hg).2
  exact i_add (by omega) (by omega)
theorem w_6 (hg : g < 6) (hN : N ≤ 1000000) (h : Inv N f) : (if h_tell f g 12 = -6 then (1 : Int32) else 0) = (if h_thr f g = 0 then 1 else 0) := by
  have e := w_thr hg hN h
  have e2 : h_thr f g = 0 ↔ (f (8 + g * 13 + 5)).toInt + (f (8 + g * 13 + 6)).toInt = 0 := by rw [i_eq, i_0, e]
  obtain ⟨-, -, -, c⟩ := (h.2 g hg).2
  rw [t_hi f g (w := 12) (by omega)]
  rcases c with ⟨c1, c2⟩ | ⟨c1, c2⟩
  · rw [if_pos c2, if_pos (e2.mpr c1)]
  · rw [if_neg (ne6 c2), if_neg (fun z => by have := e2.mp z; omega)]
theorem w_7 (hg : g < 6) (hN : N ≤ 1000000) (h : Inv N f) : ¬ h_thr f g < h_tell f g 10 := fun q => by
  have e := w_thr hg hN h
  have c := (h.2 g hg).2.2.2.1
  rw [t_hi f g (w := 10) (by omega), i_lt, e] at q
  omega
theorem w_8 (hg : g < 6) (h : Inv N f) (c : h_tell f g 3 = 1) : (h_tell f g 2 &&& 3) = f (8 + g * 13 + 0) := by
  rw [t_3] at c
  by_cases b : f (8 + g * 13 + 0) = 0
  · rw [if_neg (fun z => z b)] at c
    exact absurd c (by decide)
  · rw [if_pos b] at c
    obtain ⟨l4, l5⟩ := (h.2 g hg).1
    rw [t_2, if_pos b, if_pos (by rw [c]; decide)]
    rcases (l5.resolve_left b).2 with q | ⟨-, q⟩
    · rw [c] at q
      exact absurd q (by decide)
    · rcases l4 with e | e | e | e
      · exact absurd e b
      · rw [e] at q ⊢
        rcases q with q | q <;> rw [q] <;> decide
      · rw [e] at q ⊢
        rcases q with q | q <;> rw [q] <;> decide
      · rw [e] at q ⊢
        rcases q with q | q <;> rw [q] <;> decide
theorem w_9 (c : (h_bus f 6).2 = 0) : (h_bus f 6).1 = -6 := by
  rcases bs_bus f 6 with ⟨h1, -⟩ | ⟨g, h0, h1, h2, h3, h4⟩
  · exact h1
  · rw [c] at h3
    exact absurd h3 (by decide)
theorem w_10 (c : ¬ (h_bus f 6).2 = 0) : ∃ b, b < 6 ∧ (h_bus f 6).1 = nI b ∧ h_thr f b = (h_bus f 6).2 := by
  rcases bs_bus f 6 with ⟨h1, h2, -⟩ | ⟨g, h0, h1, h2, h3, h4⟩
  · exact absurd h2 c
  · exact ⟨g, h0, h1, h2.symm⟩
theorem w_s1 {S : Nat → Int32} {k : Nat} (h : ∀ j, j < 6 → S j = h_sum f (5 + j) (if j < k then g + 1 else g)) (hk : k < 6) : S k = h_sum f (5 + k) g := by
  rw [h k hk, if_neg (by omega)]
theorem w_s2 {k : Nat} : h_sum f (5 + k) g + h_tell f g (5 + k) = h_sum f (5 + k) (g + 1) := by
  rw [t_hi f g (by omega)]
  rfl
theorem w_s3 {S : Nat → Int32} {k : Nat} (h : ∀ j, j < 6 → S j = h_sum f (5 + j) (if j < k then g + 1 else g)) (hk : k < 6) : ∀ j, j < 6 → upd S k (h_sum f (5 + k) (g + 1)) j = h_sum f (5 + j) (if j < k + 1 then g + 1 else g) := fun j hj => by
  by_cases e : j = k
  · subst e
    rw [pk_us, if_pos (by omega)]
  · rw [pk_un e, h j hj]
    by_cases c : j < k
    · rw [if_pos c, if_pos (by omega)]
    · rw [if_neg c, if_neg (by omega)]
theorem mir_evs {f' : Nat → Int32} {w : Nat} (h : Mir f f') (hg : g < 6) : h_evs f g w = h_evs f' (5 - g) w := by
  unfold h_evs
  rw [h.2 g hg 0 (by omega), h.2 g hg 3 (by omega), mir_evto h hg]
theorem al_1 {f' : Nat → Int32} (h : Mir f f') (c : (h_bus f 6).1 = -6) : (h_bus f' 6).1 = -6 := by
  rcases mir_bus h with ⟨h1, h2⟩ | ⟨g, g', h0, h0', h1, h2, h3⟩
  · exact h2
  · rw [h1] at c
    exact absurd c (ne6 (by rw [nI_toInt (by omega)]; omega))
theorem al_2 {f' : Nat → Int32} (h : Mir f f') (c : ¬ (h_bus f 6).1 = -6) : ∃ g g', g < 6 ∧ g' < 6 ∧ (h_bus f 6).1 = nI g ∧ (h_bus f' 6).1 = nI g' ∧ h_thr f g = h_thr f' g' := by
  rcases mir_bus h with ⟨h1, h2⟩ | q
  · exact absurd h1 c
  · exact q
end WE
section WR
variable {p : Program} {l : Launch} {e : Env} {R : Room} {s : State} {m : MethodId} {args : Array Value} {below : List Frame} {meth : Method} {c : Code} {H : Heap} {locs : List Loc} {cells slots : Nat}
theorem b_retWZc {cc : ByteArray} {pc : Nat} {ls : Array Slot} {D : va_G} {A : Nat → Prop} {w1 : va_W} {v r : Int32} (hexec : p.tables.exec = Jvm.exec) (hb : c.code = cc) (hr : meth.sig.returnType = some .boolean) (hlocks : meth.locks = false) (hz : narrow .boolean (.int r) = .int r) (hS : va_S A s.heap H locs) (hv : r = v) (hP : va_P D vwCl w1 H) (hdg : decode cc pc = .ok (.ireturn, 1)) : W p l e R s m args below meth c H locs cells slots (MQ below (b_Qi D v w1 A) args s cells slots A) (F0 m pc ls [.int r]) :=
  W.zret (v := r) hexec hb hr hz (fun t ht hW => ⟨⟨r, (), rfl, hv, by show va_P D vwCl w1 t.heap; rw [ht]; exact hP⟩, hS.F ht⟩) hS.2.2 hdg hlocks
end WR
