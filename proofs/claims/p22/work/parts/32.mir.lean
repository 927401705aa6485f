/-! the two houses: the gate g of the one is the gate 5 - g of the other -/
def Mir (f f' : Nat → Int32) : Prop := (∀ k, k < 8 → f' k = f k) ∧ ∀ g, g < 6 → ∀ j, j < 13 → f' (8 + (5 - g) * 13 + j) = f (8 + g * 13 + j)
theorem Mir.cong {f f' F F' : Nat → Int32} (h : Mir f f') (e : ∀ k, k < 86 → F k = f k) (e' : ∀ k, k < 86 → F' k = f' k) : Mir F F' :=
  ⟨fun k hk => by rw [e k (by omega), e' k (by omega), h.1 k hk], fun g hg j hj => by rw [e _ (by omega), e' _ (by omega), h.2 g hg j hj]⟩
theorem Mir.updh {f f' : Nat → Int32} {k : Nat} {x : Int32} (h : Mir f f') (hk : k < 8) : Mir (upd f k x) (upd f' k x) :=
  ⟨fun j hj => by
    by_cases e : j = k
    · subst e
      rw [pk_us, pk_us]
    · rw [pk_un e, pk_un e, h.1 j hj], fun g hg j hj => by rw [pk_un (by omega), pk_un (by omega), h.2 g hg j hj]⟩
theorem Mir.updg {f f' : Nat → Int32} {g j : Nat} {x : Int32} (h : Mir f f') (hg : g < 6) (hj : j < 13) : Mir (upd f (8 + g * 13 + j) x) (upd f' (8 + (5 - g) * 13 + j) x) :=
  ⟨fun k hk => by rw [pk_un (by omega), pk_un (by omega), h.1 k hk], fun g2 h2 j2 hj2 => by
    by_cases e : g2 = g ∧ j2 = j
    · obtain ⟨rfl, rfl⟩ := e
      rw [pk_us, pk_us]
    · rw [pk_un (fun q => e (by omega)), pk_un (fun q => e (by omega)), h.2 g2 h2 j2 hj2]⟩
theorem mir_become {f f' : Nat → Int32} {x : Int32} (h : Mir f f') : Mir (h_become f x) (h_become f' x) := by
  unfold h_become
  rw [pk_un (f := f) (by omega : 5 ≠ 4), pk_un (f := f') (by omega : 5 ≠ 4), h.1 5 (by omega)]
  split
  · exact h.updh (by omega)
  · exact (h.updh (by omega)).updh (by omega)
theorem mir_more {f f' : Nat → Int32} (h : Mir f f') : Mir (h_more f) (h_more f') := by
  unfold h_more
  have hb := mir_become (x := f 4 + 1) h
  rw [h.1 4 (by omega), hb.1 4 (by omega), hb.1 2 (by omega), hb.1 6 (by omega)]
  split
  · exact hb
  · exact hb.updh (by omega)
theorem mir_less {f f' : Nat → Int32} (h : Mir f f') : Mir (h_less f) (h_less f') := by
  unfold h_less
  rw [h.1 4 (by omega), h.1 7 (by omega)]
  split
  · exact h.updh (by omega)
  · exact h.updh (by omega)
theorem mir_come1 {f f' : Nat → Int32} {g w : Nat} (h : Mir f f') (hg : g < 6) : Mir (h_come1 f (8 + g * 13) w) (h_come1 f' (8 + (5 - g) * 13) w) := by
  unfold h_come1
  rw [h.2 g hg 4 (by omega), h.1 1 (by omega), h.2 g hg 1 (by omega), h.2 g hg 12 (by omega), h.2 g hg 10 (by omega)]
  split
  · split
    · exact h
    · exact h.updg hg (by omega)
  · exact h
theorem mir_come2 {f f' : Nat → Int32} {g w : Nat} {b : Int32} (h : Mir f f') (hg : g < 6) (hw : w < 13) : Mir (h_come2 f (8 + g * 13) w b) (h_come2 f' (8 + (5 - g) * 13) w b) := by
  unfold h_come2
  dsimp only
  rw [h.2 g hg w hw]
  have h2 := h.updg (x := f (8 + g * 13 + w) + 1) hg hw
  rw [h2.2 g hg 11 (by omega), h2.1 3 (by omega)]
  have h3 := h2.updg (j := 11) (x := upd f (8 + g * 13 + w) (f (8 + g * 13 + w) + 1) (8 + g * 13 + 11) + (upd f (8 + g * 13 + w) (f (8 + g * 13 + w) + 1) 3 - b)) hg (by omega)
  have h4 := h3.updg (j := 4) (x := nI w) hg (by omega)
  rw [h4.1 3 (by omega)]
  exact h4.updg hg (by omega)
theorem mir_come {f f' : Nat → Int32} {g w : Nat} (h : Mir f f') (hg : g < 6) (hw : w < 13) : Mir (h_come f (8 + g * 13) w) (h_come f' (8 + (5 - g) * 13) w) := by
  unfold h_come
  rw [h.2 g hg 1 (by omega)]
  exact mir_come2 (mir_come1 h hg) hg hw
theorem mir_end1 {f f' : Nat → Int32} {g : Nat} (h : Mir f f') (hg : g < 6) : Mir (h_end1 f (8 + g * 13)) (h_end1 f' (8 + (5 - g) * 13)) := by
  unfold h_end1
  rw [h.1 3 (by omega), h.1 0 (by omega), h.2 g hg 1 (by omega), h.2 g hg 9 (by omega)]
  split
  · exact h
  · exact h.updg hg (by omega)
theorem mir_end2 {f f' : Nat → Int32} {g : Nat} (h : Mir f f') (hg : g < 6) : Mir (h_end2 f (8 + g * 13)) (h_end2 f' (8 + (5 - g) * 13)) := by
  unfold h_end2
  rw [h.2 g hg 3 (by omega), h.2 g hg 2 (by omega), h.2 g hg 8 (by omega), h.2 g hg 7 (by omega)]
  split
  · exact h.updg hg (by omega)
  · split
    · exact mir_more (mir_come h hg (by omega))
    · split
      · exact mir_less (mir_come h hg (by omega))
      · exact h.updg hg (by omega)
theorem mir_end {f f' : Nat → Int32} {g : Nat} (h : Mir f f') (hg : g < 6) : Mir (h_end f (8 + g * 13)) (h_end f' (8 + (5 - g) * 13)) := mir_end2 (mir_end1 h hg) hg
theorem mir_begin {f f' : Nat → Int32} {g : Nat} (h : Mir f f') (hg : g < 6) : Mir (h_begin f (8 + g * 13)) (h_begin f' (8 + (5 - g) * 13)) := by
  unfold h_begin
  rw [h.1 3 (by omega)]
  exact ((h.updg hg (by omega)).updg hg (by omega)).updg hg (by omega)
theorem mir_change1 {f f' : Nat → Int32} {g : Nat} (h : Mir f f') (hg : g < 6) : Mir (h_change1 f (8 + g * 13)) (h_change1 f' (8 + (5 - g) * 13)) := by
  unfold h_change1
  rw [h.2 g hg 0 (by omega)]
  split
  · exact mir_begin h hg
  · exact h
theorem mir_change2 {f f' : Nat → Int32} {g bm : Nat} {b k : Int32} (h : Mir f f') (hg : g < 6) : Mir (h_change2 f (8 + g * 13) bm b k) (h_change2 f' (8 + (5 - g) * 13) bm b k) := by
  unfold h_change2
  rw [h.2 g hg 2 (by omega)]
  split
  · exact h.updg hg (by omega)
  · exact h.updg hg (by omega)
theorem mir_change3 {f f' : Nat → Int32} {g : Nat} {k : Int32} (h : Mir f f') (hg : g < 6) : Mir (h_change3 f (8 + g * 13) k) (h_change3 f' (8 + (5 - g) * 13) k) := by
  unfold h_change3
  split
  · exact mir_end (h.updg hg (by omega)) hg
  · exact h.updg hg (by omega)
theorem mir_look {f f' : Nat → Int32} {g bm : Nat} (h : Mir f f') (hg : g < 6) : h_look f' (8 + (5 - g) * 13) bm = h_look f (8 + g * 13) bm := by
  show f' (8 + (5 - g) * 13 + 0) ^^^ b_tb bm = f (8 + g * 13 + 0) ^^^ b_tb bm
  rw [h.2 g hg 0 (by omega)]
theorem mir_change {f f' : Nat → Int32} {g bm : Nat} (h : Mir f f') (hg : g < 6) : Mir (h_change f g bm) (h_change f' (5 - g) bm) := by
  unfold h_change
  rw [mir_look h hg, h.2 g hg 0 (by omega)]
  exact mir_change3 (mir_change2 (mir_change1 h hg) hg) hg
theorem mir_free {f f' : Nat → Int32} {g : Nat} (h : Mir f f') (hg : g < 6) : Mir (h_free f g) (h_free f' (5 - g)) := mir_end ((h.updg hg (by omega)).updg hg (by omega)) hg
theorem mir_goBy {f f' : Nat → Int32} {t : Int32} (h : Mir f f') : Mir (h_goBy f t) (h_goBy f' t) := by
  unfold h_goBy
  rw [h.1 3 (by omega)]
  exact h.updh (by omega)
/-! what is told is the same -/
theorem b_i_iff {p q : Prop} [Decidable p] [Decidable q] (h : p ↔ q) : b_i p = b_i q := by
  by_cases c : p
  · rw [b_i_t c, b_i_t (h.mp c)]
  · rw [b_i_f c, b_i_f (fun z => c (h.mpr z))]
theorem mir_blk {f f' : Nat → Int32} {g : Nat} (h : Mir f f') (hg : g < 6) : h_blk f' (5 - g) ↔ h_blk f g := by
  unfold h_blk
  rw [h.2 g hg 0 (by omega), h.2 g hg 1 (by omega), h.1 3 (by omega), h.1 0 (by omega)]
theorem mir_tell {f f' : Nat → Int32} {g w : Nat} (h : Mir f f') (hg : g < 6) (hw : w < 13) : h_tell f' (5 - g) w = h_tell f g w := by
  unfold h_tell
  rw [b_i_iff (mir_blk h hg), h.2 g hg 0 (by omega), h.2 g hg 1 (by omega), h.2 g hg 2 (by omega), h.2 g hg 3 (by omega), h.2 g hg w hw]
theorem mir_thr {f f' : Nat → Int32} {g : Nat} (h : Mir f f') (hg : g < 6) : h_thr f' (5 - g) = h_thr f g := by
  unfold h_thr
  rw [h.2 g hg 5 (by omega), h.2 g hg 6 (by omega)]
theorem mir_mean {f f' : Nat → Int32} {g : Nat} (h : Mir f f') (hg : g < 6) : h_mean f' (5 - g) = h_mean f g := by
  unfold h_mean
  rw [mir_thr h hg, mir_tell h hg (by omega)]
theorem mir_evto {f f' : Nat → Int32} {g w : Nat} (h : Mir f f') (hg : g < 6) : h_evto f' (5 - g) w = h_evto f g w := by
  unfold h_evto
  rw [h.2 g hg 2 (by omega)]
theorem mir_sum {f f' : Nat → Int32} {w : Nat} (h : Mir f f') (hw : w < 13) : h_sum f' w 6 = h_sum f w 6 := by
  have a0 : f' (8 + 0 * 13 + w) = f (8 + 5 * 13 + w) := h.2 5 (by omega) w hw
  have a1 : f' (8 + 1 * 13 + w) = f (8 + 4 * 13 + w) := h.2 4 (by omega) w hw
  have a2 : f' (8 + 2 * 13 + w) = f (8 + 3 * 13 + w) := h.2 3 (by omega) w hw
  have a3 : f' (8 + 3 * 13 + w) = f (8 + 2 * 13 + w) := h.2 2 (by omega) w hw
  have a4 : f' (8 + 4 * 13 + w) = f (8 + 1 * 13 + w) := h.2 1 (by omega) w hw
  have a5 : f' (8 + 5 * 13 + w) = f (8 + 0 * 13 + w) := h.2 0 (by omega) w hw
  show 0 + f' (8 + 0 * 13 + w) + f' (8 + 1 * 13 + w) + f' (8 + 2 * 13 + w) + f' (8 + 3 * 13 + w) + f' (8 + 4 * 13 + w) + f' (8 + 5 * 13 + w) = 0 + f (8 + 0 * 13 + w) + f (8 + 1 * 13 + w) + f (8 + 2 * 13 + w) + f (8 + 3 * 13 + w) + f (8 + 4 * 13 + w) + f (8 + 5 * 13 + w)
  rw [a0, a1, a2, a3, a4, a5]
  generalize f (8 + 0 * 13 + w) = x0
  generalize f (8 + 1 * 13 + w) = x1
  generalize f (8 + 2 * 13 + w) = x2
  generalize f (8 + 3 * 13 + w) = x3
  generalize f (8 + 4 * 13 + w) = x4
  generalize f (8 + 5 * 13 + w) = x5
  ac_rfl
/-! masks of six bits -/
def m6o (m : Int32) (b : Bool) (k : Int32) : Int32 := if b then m ||| k else m
def m6 (b0 b1 b2 b3 b4 b5 : Bool) : Int32 := m6o (m6o (m6o (m6o (m6o (m6o 0 b0 1) b1 2) b2 4) b3 8) b4 16) b5 32
theorem m6o_if {p : Prop} [Decidable p] (m k k2 : Int32) (e : k = k2) : (if p then m ||| k else m) = m6o m (decide p) k2 := by
  subst e
  unfold m6o
  by_cases c : p
  · rw [if_pos c, if_pos (decide_eq_true c)]
  · rw [if_neg c, if_neg (by rw [decide_eq_false c]; decide)]
theorem bm6 (f : Nat → Int32) : h_bm f 6 = m6 (decide (h_blk f 0)) (decide (h_blk f 1)) (decide (h_blk f 2)) (decide (h_blk f 3)) (decide (h_blk f 4)) (decide (h_blk f 5)) := by
  unfold m6
  rw [← m6o_if _ ((1 : Int32) <<< (nI 5 &&& 31)) 32 (by decide), ← m6o_if _ ((1 : Int32) <<< (nI 4 &&& 31)) 16 (by decide), ← m6o_if _ ((1 : Int32) <<< (nI 3 &&& 31)) 8 (by decide), ← m6o_if _ ((1 : Int32) <<< (nI 2 &&& 31)) 4 (by decide), ← m6o_if _ ((1 : Int32) <<< (nI 1 &&& 31)) 2 (by decide), ← m6o_if _ ((1 : Int32) <<< (nI 0 &&& 31)) 1 (by decide)]
  rfl
theorem um6 (f : Nat → Int32) : h_um f 6 = m6 (decide (¬ f (8 + 0 * 13 + 0) = 0)) (decide (¬ f (8 + 1 * 13 + 0) = 0)) (decide (¬ f (8 + 2 * 13 + 0) = 0)) (decide (¬ f (8 + 3 * 13 + 0) = 0)) (decide (¬ f (8 + 4 * 13 + 0) = 0)) (decide (¬ f (8 + 5 * 13 + 0) = 0)) := by
  unfold m6
  rw [← m6o_if _ ((1 : Int32) <<< (nI 5 &&& 31)) 32 (by decide), ← m6o_if _ ((1 : Int32) <<< (nI 4 &&& 31)) 16 (by decide), ← m6o_if _ ((1 : Int32) <<< (nI 3 &&& 31)) 8 (by decide), ← m6o_if _ ((1 : Int32) <<< (nI 2 &&& 31)) 4 (by decide), ← m6o_if _ ((1 : Int32) <<< (nI 1 &&& 31)) 2 (by decide), ← m6o_if _ ((1 : Int32) <<< (nI 0 &&& 31)) 1 (by decide)]
  rfl
def rv (m : Int32) : Nat → Int32
  | 0 => 0
  | k + 1 => rv m k ||| (((m >>> (nI k &&& 31)) &&& 1) <<< (nI (5 - k) &&& 31))
theorem rv6 : ∀ b0 b1 b2 b3 b4 b5 : Bool, rv (m6 b5 b4 b3 b2 b1 b0) 6 = m6 b0 b1 b2 b3 b4 b5 := by decide +kernel
def b01 (b : Bool) : Int32 := if b then 1 else 0
theorem bit0 : ∀ b0 b1 b2 b3 b4 b5 : Bool, ((m6 b0 b1 b2 b3 b4 b5 >>> (nI 0 &&& 31)) &&& 1) = b01 b0 := by decide +kernel
theorem bit1 : ∀ b0 b1 b2 b3 b4 b5 : Bool, ((m6 b0 b1 b2 b3 b4 b5 >>> (nI 1 &&& 31)) &&& 1) = b01 b1 := by decide +kernel
theorem bit2 : ∀ b0 b1 b2 b3 b4 b5 : Bool, ((m6 b0 b1 b2 b3 b4 b5 >>> (nI 2 &&& 31)) &&& 1) = b01 b2 := by decide +kernel
theorem bit3 : ∀ b0 b1 b2 b3 b4 b5 : Bool, ((m6 b0 b1 b2 b3 b4 b5 >>> (nI 3 &&& 31)) &&& 1) = b01 b3 := by decide +kernel
theorem bit4 : ∀ b0 b1 b2 b3 b4 b5 : Bool, ((m6 b0 b1 b2 b3 b4 b5 >>> (nI 4 &&& 31)) &&& 1) = b01 b4 := by decide +kernel
theorem bit5 : ∀ b0 b1 b2 b3 b4 b5 : Bool, ((m6 b0 b1 b2 b3 b4 b5 >>> (nI 5 &&& 31)) &&& 1) = b01 b5 := by decide +kernel
theorem pop6 : ∀ b0 b1 b2 b3 b4 b5 : Bool, b_bc (m6 b0 b1 b2 b3 b4 b5) = 0 + b01 b0 + b01 b1 + b01 b2 + b01 b3 + b01 b4 + b01 b5 := by decide +kernel
theorem b01_i {p : Prop} [Decidable p] : b01 (decide p) = b_i p := by
  unfold b01
  by_cases c : p
  · rw [if_pos (decide_eq_true c), b_i_t c]
  · rw [if_neg (by rw [decide_eq_false c]; decide), b_i_f c]
theorem bit_bm (f : Nat → Int32) {g : Nat} (hg : g < 6) : ((h_bm f 6 >>> (nI g &&& 31)) &&& 1) = b_i (h_blk f g) := by
  rw [bm6]
  match g, hg with
  | 0, _ => exact (bit0 _ _ _ _ _ _).trans b01_i
  | 1, _ => exact (bit1 _ _ _ _ _ _).trans b01_i
  | 2, _ => exact (bit2 _ _ _ _ _ _).trans b01_i
  | 3, _ => exact (bit3 _ _ _ _ _ _).trans b01_i
  | 4, _ => exact (bit4 _ _ _ _ _ _).trans b01_i
  | 5, _ => exact (bit5 _ _ _ _ _ _).trans b01_i
  | k + 6, z => exact absurd z (by omega)
theorem bit_um (f : Nat → Int32) {g : Nat} (hg : g < 6) : ((h_um f 6 >>> (nI g &&& 31)) &&& 1) = b_i (¬ f (8 + g * 13 + 0) = 0) := by
  rw [um6]
  match g, hg with
  | 0, _ => exact (bit0 _ _ _ _ _ _).trans b01_i
  | 1, _ => exact (bit1 _ _ _ _ _ _).trans b01_i
  | 2, _ => exact (bit2 _ _ _ _ _ _).trans b01_i
  | 3, _ => exact (bit3 _ _ _ _ _ _).trans b01_i
  | 4, _ => exact (bit4 _ _ _ _ _ _).trans b01_i
  | 5, _ => exact (bit5 _ _ _ _ _ _).trans b01_i
  | k + 6, z => exact absurd z (by omega)
theorem mir_bm {f f' : Nat → Int32} (h : Mir f f') : rv (h_bm f' 6) 6 = h_bm f 6 := by
  rw [bm6 f, bm6 f']
  have a0 : decide (h_blk f' 0) = decide (h_blk f 5) := decide_eq_decide.mpr (mir_blk (g := 5) h (by omega))
  have a1 : decide (h_blk f' 1) = decide (h_blk f 4) := decide_eq_decide.mpr (mir_blk (g := 4) h (by omega))
  have a2 : decide (h_blk f' 2) = decide (h_blk f 3) := decide_eq_decide.mpr (mir_blk (g := 3) h (by omega))
  have a3 : decide (h_blk f' 3) = decide (h_blk f 2) := decide_eq_decide.mpr (mir_blk (g := 2) h (by omega))
  have a4 : decide (h_blk f' 4) = decide (h_blk f 1) := decide_eq_decide.mpr (mir_blk (g := 1) h (by omega))
  have a5 : decide (h_blk f' 5) = decide (h_blk f 0) := decide_eq_decide.mpr (mir_blk (g := 0) h (by omega))
  rw [a0, a1, a2, a3, a4, a5]
  exact rv6 _ _ _ _ _ _
theorem mir_um {f f' : Nat → Int32} (h : Mir f f') : rv (h_um f' 6) 6 = h_um f 6 := by
  rw [um6 f, um6 f']
  have a0 : f' (8 + 0 * 13 + 0) = f (8 + 5 * 13 + 0) := h.2 5 (by omega) 0 (by omega)
  have a1 : f' (8 + 1 * 13 + 0) = f (8 + 4 * 13 + 0) := h.2 4 (by omega) 0 (by omega)
  have a2 : f' (8 + 2 * 13 + 0) = f (8 + 3 * 13 + 0) := h.2 3 (by omega) 0 (by omega)
  have a3 : f' (8 + 3 * 13 + 0) = f (8 + 2 * 13 + 0) := h.2 2 (by omega) 0 (by omega)
  have a4 : f' (8 + 4 * 13 + 0) = f (8 + 1 * 13 + 0) := h.2 1 (by omega) 0 (by omega)
  have a5 : f' (8 + 5 * 13 + 0) = f (8 + 0 * 13 + 0) := h.2 0 (by omega) 0 (by omega)
  rw [a0, a1, a2, a3, a4, a5]
  exact rv6 _ _ _ _ _ _
/-! the busiest gate -/
def BS (f : Nat → Int32) (n : Nat) (q : Int32 × Int32) : Prop := (q.1 = -6 ∧ q.2 = 0 ∧ ∀ g, g < n → h_thr f g ≤ 0) ∨ ∃ g, g < n ∧ q.1 = nI g ∧ q.2 = h_thr f g ∧ 0 < q.2 ∧ ∀ j, j < n → h_thr f j ≤ q.2
theorem bs_bus (f : Nat → Int32) : ∀ n, BS f n (h_bus f n)
  | 0 => Or.inl ⟨rfl, rfl, fun g hg => absurd hg (Nat.not_lt_zero _)⟩
  | n + 1 => by
    have ih := bs_bus f n
    have e : h_bus f (n + 1) = if h_thr f n ≤ (h_bus f n).2 then h_bus f n else (nI n, h_thr f n) := rfl
    rw [e]
    by_cases c : h_thr f n ≤ (h_bus f n).2
    · rw [if_pos c]
      rcases ih with ⟨h1, h2, h3⟩ | ⟨g, h0, h1, h2, h3, h4⟩
      · refine Or.inl ⟨h1, h2, fun j hj => ?_⟩
        by_cases z : j = n
        · rw [z, ← h2]
          exact c
        · exact h3 j (by omega)
      · refine Or.inr ⟨g, by omega, h1, h2, h3, fun j hj => ?_⟩
        by_cases z : j = n
        · rw [z]
          exact c
        · exact h4 j (by omega)
    · rw [if_neg c]
      have c' : (h_bus f n).2 < h_thr f n := Int32.not_le.mp c
      refine Or.inr ⟨n, by omega, rfl, rfl, ?_, fun j hj => ?_⟩
      · show 0 < h_thr f n
        rw [i_lt] at c' ⊢
        rw [i_0]
        rcases ih with ⟨h1, h2, h3⟩ | ⟨g, h0, h1, h2, h3, h4⟩
        · rw [h2, i_0] at c'
          exact c'
        · rw [i_lt, i_0] at h3
          omega
      · show h_thr f j ≤ h_thr f n
        rw [i_lt] at c'
        rw [i_le]
        by_cases z : j = n
        · rw [z]
          exact Int.le_refl _
        · rcases ih with ⟨h1, h2, h3⟩ | ⟨g, h0, h1, h2, h3, h4⟩
          · have := h3 j (by omega)
            rw [i_le, i_0] at this
            rw [h2, i_0] at c'
            omega
          · have := h4 j (by omega)
            rw [i_le] at this
            omega
theorem mir_bus {f f' : Nat → Int32} (h : Mir f f') : ((h_bus f 6).1 = -6 ∧ (h_bus f' 6).1 = -6) ∨ ∃ g g', g < 6 ∧ g' < 6 ∧ (h_bus f 6).1 = nI g ∧ (h_bus f' 6).1 = nI g' ∧ h_thr f g = h_thr f' g' := by
  have th : ∀ j, j < 6 → h_thr f' j = h_thr f (5 - j) := fun j hj => by
    have := mir_thr h (g := 5 - j) (by omega)
    rw [show 5 - (5 - j) = j by omega] at this
    exact this
  rcases bs_bus f 6 with ⟨h1, h2, h3⟩ | ⟨g, h0, h1, h2, h3, h4⟩
  · rcases bs_bus f' 6 with ⟨k1, k2, k3⟩ | ⟨g', k0, k1, k2, k3, k4⟩
    · exact Or.inl ⟨h1, k1⟩
    · have := h3 (5 - g') (by omega)
      rw [← th g' k0, ← k2, i_le] at this
      rw [i_lt] at k3
      omega
  · rcases bs_bus f' 6 with ⟨k1, k2, k3⟩ | ⟨g', k0, k1, k2, k3, k4⟩
    · have := k3 (5 - g) (by omega)
      rw [mir_thr h h0, ← h2, i_le] at this
      rw [i_lt] at h3
      omega
    · refine Or.inr ⟨g, g', h0, k0, h1, k1, ?_⟩
      have a := h4 (5 - g') (by omega)
      have b := k4 (5 - g) (by omega)
      rw [← th g' k0, ← k2, i_le] at a
      rw [mir_thr h h0, ← h2, i_le] at b
      rw [i_eq, ← h2, ← k2]
      omega
/-! until the next gate is blocked -/
def cand (f : Nat → Int32) (g : Nat) : Prop := (¬ f (8 + g * 13 + 0) = 0) ∧ ¬ h_blk f g
theorem cand_left {N : Nat} {f : Nat → Int32} {g : Nat} (hg : g < 6) (hN : N ≤ 1000000) (h : Inv N f) (c : cand f g) : (h_left f g).toInt = (f 0).toInt - ((f 3).toInt - (f (8 + g * 13 + 1)).toInt) ∧ 1 ≤ (h_left f g).toInt ∧ (f 3 - f (8 + g * 13 + 1)).toInt = (f 3).toInt - (f (8 + g * 13 + 1)).toInt := by
  obtain ⟨⟨H0, H3, H4⟩, hG⟩ := h
  obtain ⟨l4, l5⟩ := (hG g hg).1
  have q := (l5.resolve_left c.1).1
  have e1 : (f 3 - f (8 + g * 13 + 1)).toInt = (f 3).toInt - (f (8 + g * 13 + 1)).toInt := i_sub (by omega) (by omega)
  have e2 : (h_left f g).toInt = (f 0).toInt - (f 3 - f (8 + g * 13 + 1)).toInt := i_sub (by rw [e1]; omega) (by rw [e1]; omega)
  have c2 : f 3 - f (8 + g * 13 + 1) < f 0 := Classical.byContradiction fun z => c.2 ⟨c.1, z⟩
  rw [i_lt, e1] at c2
  exact ⟨by rw [e2, e1], by rw [e2, e1]; omega, e1⟩
def US (f : Nat → Int32) (n : Nat) (u : Int32) : Prop := (u = -6 ∧ ∀ g, g < n → ¬ cand f g) ∨ ∃ g, g < n ∧ cand f g ∧ u = h_left f g ∧ ∀ j, j < n → cand f j → (u).toInt ≤ (h_left f j).toInt
theorem us_ub {N : Nat} {f : Nat → Int32} (hN : N ≤ 1000000) (h : Inv N f) : ∀ n, n ≤ 6 → US f n (h_ub f n)
  | 0, _ => Or.inl ⟨rfl, fun g hg => absurd hg (Nat.not_lt_zero _)⟩
  | n + 1, hn => by
    have ih := us_ub hN h n (by omega)
    have e : h_ub f (n + 1) = if ¬ f (8 + n * 13 + 0) = 0 then (if h_blk f n then h_ub f n else if h_ub f n = (-6) then h_left f n else if h_ub f n ≤ h_left f n then h_ub f n else h_left f n) else h_ub f n := rfl
    have keep : ¬ cand f n → US f (n + 1) (h_ub f n) := fun nc => by
      rcases ih with ⟨h1, h2⟩ | ⟨g, h0, h1, h2, h3⟩
      · refine Or.inl ⟨h1, fun j hj => ?_⟩
        by_cases z : j = n
        · rw [z]
          exact nc
        · exact h2 j (by omega)
      · refine Or.inr ⟨g, by omega, h1, h2, fun j hj hc => ?_⟩
        by_cases z : j = n
        · exact absurd (z ▸ hc) nc
        · exact h3 j (by omega) hc
    rw [e]
    by_cases c1 : f (8 + n * 13 + 0) = 0
    · rw [if_neg (fun z => z c1)]
      exact keep (fun z => z.1 c1)
    · rw [if_pos c1]
      by_cases c2 : h_blk f n
      · rw [if_pos c2]
        exact keep (fun z => z.2 c2)
      · rw [if_neg c2]
        have cn : cand f n := ⟨c1, c2⟩
        by_cases c3 : h_ub f n = (-6)
        · rw [if_pos c3]
          rcases ih with ⟨h1, h2⟩ | ⟨g, h0, h1, h2, h3⟩
          · refine Or.inr ⟨n, by omega, cn, rfl, fun j hj hc => ?_⟩
            by_cases z : j = n
            · rw [z]
              exact Int.le_refl _
            · exact absurd hc (h2 j (by omega))
          · have := (cand_left (by omega) hN h h1).2.1
            rw [← h2, c3, i_6] at this
            omega
        · rw [if_neg c3]
          rcases ih with ⟨h1, h2⟩ | ⟨g, h0, h1, h2, h3⟩
          · exact absurd h1 c3
          · by_cases c4 : h_ub f n ≤ h_left f n
            · rw [if_pos c4]
              refine Or.inr ⟨g, by omega, h1, h2, fun j hj hc => ?_⟩
              by_cases z : j = n
              · rw [z, ← i_le]
                exact c4
              · exact h3 j (by omega) hc
            · rw [if_neg c4]
              have c5 : h_left f n < h_ub f n := Int32.not_le.mp c4
              rw [i_lt] at c5
              refine Or.inr ⟨n, by omega, cn, rfl, fun j hj hc => ?_⟩
              by_cases z : j = n
              · rw [z]
                exact Int.le_refl _
              · have := h3 j (by omega) hc
                omega
theorem mir_ub {N : Nat} {f f' : Nat → Int32} (hN : N ≤ 1000000) (h : Inv N f) (h' : Inv N f') (hm : Mir f f') : h_ub f 6 = h_ub f' 6 := by
  have cd : ∀ j, j < 6 → (cand f' (5 - j) ↔ cand f j) := fun j hj => by
    unfold cand
    rw [hm.2 j hj 0 (by omega), mir_blk hm hj]
  have lf : ∀ j, j < 6 → h_left f' (5 - j) = h_left f j := fun j hj => by
    unfold h_left
    rw [hm.2 j hj 1 (by omega), hm.1 3 (by omega), hm.1 0 (by omega)]
  have re : ∀ j, j < 6 → 5 - (5 - j) = j := fun j hj => by omega
  rcases us_ub hN h 6 (by omega) with ⟨h1, h2⟩ | ⟨g, h0, h1, h2, h3⟩
  · rcases us_ub hN h' 6 (by omega) with ⟨k1, k2⟩ | ⟨g', k0, k1, k2, k3⟩
    · rw [h1, k1]
    · have := (cd (5 - g') (by omega)).mp (by rw [re g' k0]; exact k1)
      exact absurd this (h2 _ (by omega))
  · rcases us_ub hN h' 6 (by omega) with ⟨k1, k2⟩ | ⟨g', k0, k1, k2, k3⟩
    · exact absurd ((cd g h0).mpr h1) (k2 _ (by omega))
    · have a := h3 (5 - g') (by omega) ((cd (5 - g') (by omega)).mp (by rw [re g' k0]; exact k1))
      have b := k3 (5 - g) (by omega) ((cd g h0).mpr h1)
      have e := lf (5 - g') (by omega)
      rw [re g' k0] at e
      rw [← e, ← k2] at a
      rw [lf g h0, ← h2] at b
      rw [i_eq]
      omega
