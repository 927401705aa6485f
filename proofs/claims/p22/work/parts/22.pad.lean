/-! the pad: its text tx, n characters long -/
abbrev p_rest (c : Int64) (i : Nat) : Int64 := (c.toUInt64 >>> ((nI (8 * i)).toInt64.toUInt64 &&& Int64.toUInt64 63)).toInt64
abbrev p_code (c : Int64) (i : Nat) : Int32 := (p_rest c i &&& 255).toInt32
def p_num (c : Int64) : Nat → Nat → Int32
  | 0, _ => 8
  | k + 1, i => if p_code c i = 0 then (if p_rest c i = 0 then nI i else -2) else if p_code c i < 33 then -2 else if p_code c i ≤ 126 then p_num c k (i + 1) else -2
theorem p_num_s {c : Int64} {i : Nat} (h : i < 8) : p_num c (8 - i) i = if p_code c i = 0 then (if p_rest c i = 0 then nI i else -2) else if p_code c i < 33 then -2 else if p_code c i ≤ 126 then p_num c (8 - (i + 1)) (i + 1) else -2 := by
  obtain ⟨k, hk⟩ : ∃ k, 8 - i = k + 1 := ⟨8 - i - 1, by omega⟩
  rw [hk, show 8 - (i + 1) = k by omega]
  rfl
abbrev p_gd (c : Int32) : Prop := (¬ c < 48) ∧ ¬ 54 ≤ c
abbrev p_dg (c : Int32) : Prop := (¬ c < 48) ∧ ¬ 57 < c
def p_ae (c : Int32) : Nat := if c = 59 then 0 else 6
def p_beam (c : Int32) : Int32 := if c = 111 then 0 else if c = 105 then 1 else if c = 98 then 2 else -6
def p_sa (q : Nat) (c : Int32) : Nat :=
  if q = 0 then (if c = 46 then 3 else if p_gd c then 1 else 6) else
  if q = 1 then (if p_beam c < 0 then 6 else 2) else
  if q = 2 then (if p_beam c < 0 then p_ae c else 2) else
  if q = 3 then (if p_dg c then (if c = 48 then 6 else 4) else 6) else
  if q = 4 then (if p_dg c then 5 else p_ae c) else p_ae c
theorem p_ae_lt (c : Int32) : p_ae c < 7 := by unfold p_ae; split <;> decide
theorem p_sa_lt (q : Nat) (c : Int32) : p_sa q c < 7 := by
  have := p_ae_lt c
  unfold p_sa
  repeat' split
  all_goals first | exact this | decide
def p_ff (tx : Nat → Int32) (n : Nat) : Nat → Nat → Nat → Int32
  | 0, _, q => if q = 2 then -6 else if q = 4 then -6 else if q = 5 then -6 else nI n
  | k + 1, a, q => if p_sa q (tx a) = 6 then nI a else p_ff tx n k (a + 1) (p_sa q (tx a))
theorem p_ff_s {tx : Nat → Int32} {n a q : Nat} (h : a < n) : p_ff tx n (n - a) a q = if p_sa q (tx a) = 6 then nI a else p_ff tx n (n - (a + 1)) (a + 1) (p_sa q (tx a)) := by
  obtain ⟨k, hk⟩ : ∃ k, n - a = k + 1 := ⟨n - a - 1, by omega⟩
  rw [hk, show n - (a + 1) = k by omega]
  rfl
def p_ni (tx : Nat → Int32) : Nat → Nat → Int32 → Int32
  | 0, _, x => x
  | k + 1, i, x => p_ni tx k (i + 1) (x * 10 + tx i - 48)
theorem p_ni_s {tx : Nat → Int32} {t i : Nat} {x : Int32} (h : i < t) : p_ni tx (t - i) i x = p_ni tx (t - (i + 1)) (i + 1) (x * 10 + tx i - 48) := by
  obtain ⟨k, hk⟩ : ∃ k, t - i = k + 1 := ⟨t - i - 1, by omega⟩
  rw [hk, show t - (i + 1) = k by omega]
  rfl
def h_let (f : Nat → Int32) (t : Int32) : Nat → Int32 := if ¬ 99999 < f 3 + t then h_goBy f t else f
def p_cb (tx : Nat → Int32) (g : Nat) : Nat → Nat → (Nat → Int32) → Int32 → (Nat → Int32) × Int32
  | 0, _, f, e => (f, e)
  | k + 1, i, f, e => if p_beam (tx i) < 0 then p_cb tx g k (i + 1) f e else p_cb tx g k (i + 1) (h_change f g (p_beam (tx i)).toNatClampNeg) (if (f (8 + g * 13 + 0) ^^^ b_tb (p_beam (tx i)).toNatClampNeg) = 0 then e + 1 else e)
theorem p_cb_s {tx : Nat → Int32} {g t i : Nat} {f : Nat → Int32} {e : Int32} (h : i < t) : p_cb tx g (t - i) i f e = if p_beam (tx i) < 0 then p_cb tx g (t - (i + 1)) (i + 1) f e else p_cb tx g (t - (i + 1)) (i + 1) (h_change f g (p_beam (tx i)).toNatClampNeg) (if (f (8 + g * 13 + 0) ^^^ b_tb (p_beam (tx i)).toNatClampNeg) = 0 then e + 1 else e) := by
  obtain ⟨k, hk⟩ : ∃ k, t - i = k + 1 := ⟨t - i - 1, by omega⟩
  rw [hk, show t - (i + 1) = k by omega]
  rfl
theorem p_beam_cases (c : Int32) : p_beam c = 0 ∨ p_beam c = 1 ∨ p_beam c = 2 ∨ p_beam c = -6 := by
  unfold p_beam
  repeat' split
  all_goals simp
/-- one more step of the loop over the letters: none of them; a beam -/
theorem p_cb_n {tx : Nat → Int32} {g t i : Nat} {f : Nat → Int32} {e : Int32} (h : i < t) (hb : p_beam (tx i) = -6) : p_cb tx g (t - i) i f e = p_cb tx g (t - (i + 1)) (i + 1) f e := by
  rw [p_cb_s h, hb, if_pos (by decide)]
theorem p_cb_b {tx : Nat → Int32} {g t i : Nat} {f : Nat → Int32} {e : Int32} (h : i < t) (bm : Nat) (hb : p_beam (tx i) = nI bm) (hbm : bm < 3) : p_cb tx g (t - i) i f e = p_cb tx g (t - (i + 1)) (i + 1) (h_change f g bm) (if (f (8 + g * 13 + 0) ^^^ b_tb bm) = 0 then e + 1 else e) := by
  rw [p_cb_s h, hb, if_neg (nI_pos (by omega)), nI_clamp (by omega)]
abbrev p_ng (x : Int32) : Prop := x < 0 ∨ ¬ x < 6
theorem p_gate {x : Int32} (h : ¬ p_ng x) : ∃ g : Nat, g < 6 ∧ x = nI g := by
  have h1 : ¬ x < 0 := fun q => h (Or.inl q)
  have h2 : x < 6 := Classical.not_not.mp (fun q => h (Or.inr q))
  obtain ⟨j, hj, rfl⟩ := nI_of h1
  exact ⟨j, (nI_ltI (a := j) (b := 6) hj (by omega)).mp h2, rfl⟩
def p_chb (tx : Nat → Int32) (s t : Nat) (f : Nat → Int32) : (Nat → Int32) × Int32 := if p_ng (tx s - 48) then (f, 0) else p_cb tx (tx s - 48).toNatClampNeg (t - (s + 1)) (s + 1) f 0
def p_hap (tx : Nat → Int32) (n : Nat) : Nat → Nat → Nat → (Nat → Int32) → Int32 → (Nat → Int32) × Int32
  | 0, _, _, f, e => (f, e)
  | k + 1, a, s, f, e => if (a = n ∨ tx a = 59) ∧ s < a then (if tx s = 46 then p_hap tx n k (a + 1) (a + 1) (h_let f (p_ni tx (a - (s + 1)) (s + 1) 0)) e else p_hap tx n k (a + 1) (a + 1) (p_chb tx s a f).1 (e + (p_chb tx s a f).2)) else p_hap tx n k (a + 1) s f e
theorem p_hap_s {tx : Nat → Int32} {n a s : Nat} {f : Nat → Int32} {e : Int32} (h : a ≤ n) : p_hap tx n (n + 1 - a) a s f e = if (a = n ∨ tx a = 59) ∧ s < a then (if tx s = 46 then p_hap tx n (n + 1 - (a + 1)) (a + 1) (a + 1) (h_let f (p_ni tx (a - (s + 1)) (s + 1) 0)) e else p_hap tx n (n + 1 - (a + 1)) (a + 1) (a + 1) (p_chb tx s a f).1 (e + (p_chb tx s a f).2)) else p_hap tx n (n + 1 - (a + 1)) (a + 1) s f e := by
  obtain ⟨k, hk⟩ : ∃ k, n + 1 - a = k + 1 := ⟨n + 1 - a - 1, by omega⟩
  rw [hk, show n + 1 - (a + 1) = k by omega]
  rfl

theorem hw_X2_numberOf_0 : (.constantLong RX2 19 (255) : Cond) ∈ wsX2_numberOf := by decide +kernel
set_option maxHeartbeats 4000000 in
set_option maxRecDepth 100000 in
theorem c_X2_numberOf (l : Launch) (D : va_G) (cI cC cZ cG : ClassId) (x : Int64) : Met l yX2_numberOf wsX2_numberOf ({ frames := 0, cells := 0, slots := 0, locals := 0 } : Room) (b_R D (b_T cI cC cZ cG) [] [.long x]) (vp_Si (fun r => r = p_num x 8 0)) 0 0 (fun _ => False) := by
  refine b_enterR (cc := cX2_numberOf) (maxL := 6) (ret := (some .int)) (by decide) rfl (Nat.le_of_ble_eq_true rfl) ?_
  intro p e s m below meth c ls hx hb hr hml hown hts hlocks hP hK hl Q hQ
  have hown : s.vm.findClass RX2 = some m.cls := hown
  have hl : lv_has ls 6 [(0, .long x)] := hl
  refine lv_iconst (pc := 0) (v := 0) hx hb dX2_numberOf_0 (by decide) ?_
  refine lv_istore_n (pc := 1) (lv' := [(2, .int 0), (0, .long x)]) hx hb dX2_numberOf_1 rfl hl (by decide) rfl (fun ls hl => ?_)
  have loop_2 : ∀ (fu : Nat) (i : Nat), (i ≤ 8) → (p_num x (8 - i) i = p_num x 8 0) → 8 - i < fu → ∀ (ls : Array Slot), lv_has ls 6 [(2, .int (nI i)), (0, .long x)] → W p l e ({ frames := 0, cells := 0, slots := 0, locals := 0 } : Room) s m ([.long x] : List Value).toArray below meth c s.heap [] 0 0 Q (F0 m 2 ls []) := by
    intro fu
    induction fu with
    | zero => intro i hi hv hn ls hl; exact absurd hn (Nat.not_lt_zero _)
    | succ fu ih_2 =>
      intro i hi hv hn ls hl
      refine lv_iload_n (pc := 2) hx hb dX2_numberOf_2 rfl (lv_at hl 0 rfl) ?_
      refine lv_bipush (pc := 3) (v := 8) hx hb dX2_numberOf_3 (by decide) ?_
      refine lv_icmp_ge (pc := 5) (tgt := 64) hx hb dX2_numberOf_5 (by decide) (fun c_1 => ?_) (fun c_1 => ?_)
      · skip
        have c_1 : 8 ≤ i := (nI_leI (a := 8) (b := i) (by omega) (by omega)).mp c_1
        refine lv_bipush (pc := 64) (v := 8) hx hb dX2_numberOf_64 (by decide) ?_
        subst hQ
        exact b_retR hx hb hr hlocks (by have e9 : i = 8 := (by omega); subst e9; exact hv) dX2_numberOf_66
      · skip
        have c_1 : ¬ (8 ≤ i) := fun h9 => c_1 ((nI_leI (a := 8) (b := i) (by omega) (by omega)).mpr h9)
        refine lv_lload_n (pc := 8) hx hb dX2_numberOf_8 rfl (lv_at hl 1 rfl) ?_
        refine lv_bipush (pc := 9) (v := 8) hx hb dX2_numberOf_9 (by decide) ?_
        refine lv_iload_n (pc := 11) hx hb dX2_numberOf_11 rfl (lv_at hl 0 rfl) ?_
        refine lv_imul (pc := 12) hx hb dX2_numberOf_12 ?_
        refine b_re (pk_mul 8 i) ?_
        refine lv_lushr (pc := 13) hx hb dX2_numberOf_13 rfl ?_
        refine lv_lstore_n (pc := 14) (lv' := [(3, .long ((x.toUInt64 >>> ((nI (8 * i)).toInt64.toUInt64 &&& Int64.toUInt64 63)).toInt64)), (2, .int (nI i)), (0, .long x)]) hx hb dX2_numberOf_14 rfl hl (by decide) rfl (fun ls hl => ?_)
        refine lv_lload_n (pc := 15) hx hb dX2_numberOf_15 rfl (lv_at hl 0 rfl) ?_
        refine lv_ldc2 (pc := 16) hx hb hown (hts _ hw_X2_numberOf_0) dX2_numberOf_16 ?_
        refine lv_land (pc := 19) hx hb dX2_numberOf_19 ?_
        refine lv_l2i (pc := 20) hx hb dX2_numberOf_20 rfl ?_
        refine lv_istore (pc := 21) (lv' := [(5, .int ((((x.toUInt64 >>> ((nI (8 * i)).toInt64.toUInt64 &&& Int64.toUInt64 63)).toInt64) &&& 255).toInt32)), (3, .long ((x.toUInt64 >>> ((nI (8 * i)).toInt64.toUInt64 &&& Int64.toUInt64 63)).toInt64)), (2, .int (nI i)), (0, .long x)]) hx hb dX2_numberOf_21 hl (by decide) rfl (fun ls hl => ?_)
        refine lv_iload (pc := 23) hx hb dX2_numberOf_23 (lv_at hl 0 rfl) ?_
        refine lv_if_ne (pc := 25) (tgt := 41) hx hb dX2_numberOf_25 (by decide) (fun c_2 => ?_) (fun c_2 => ?_)
        · skip
          have c_2 : ¬ (((((x.toUInt64 >>> ((nI (8 * i)).toInt64.toUInt64 &&& Int64.toUInt64 63)).toInt64) &&& 255).toInt32) = 0) := c_2
          refine lv_iload (pc := 41) hx hb dX2_numberOf_41 (lv_at hl 0 rfl) ?_
          refine lv_bipush (pc := 43) (v := 33) hx hb dX2_numberOf_43 (by decide) ?_
          refine lv_icmp_lt (pc := 45) (tgt := 55) hx hb dX2_numberOf_45 (by decide) (fun c_3 => ?_) (fun c_3 => ?_)
          · skip
            have c_3 : ((((x.toUInt64 >>> ((nI (8 * i)).toInt64.toUInt64 &&& Int64.toUInt64 63)).toInt64) &&& 255).toInt32) < 33 := c_3
            refine lv_bipush (pc := 55) (v := (-2)) hx hb dX2_numberOf_55 (by decide) ?_
            subst hQ
            exact b_retR hx hb hr hlocks (by rw [← hv, p_num_s (by omega)]; simp only [if_neg c_2, if_pos c_3, if_neg c_1]) dX2_numberOf_57
          · skip
            have c_3 : ¬ (((((x.toUInt64 >>> ((nI (8 * i)).toInt64.toUInt64 &&& Int64.toUInt64 63)).toInt64) &&& 255).toInt32) < 33) := c_3
            refine lv_iload (pc := 48) hx hb dX2_numberOf_48 (lv_at hl 0 rfl) ?_
            refine lv_bipush (pc := 50) (v := 126) hx hb dX2_numberOf_50 (by decide) ?_
            refine lv_icmp_le (pc := 52) (tgt := 58) hx hb dX2_numberOf_52 (by decide) (fun c_4 => ?_) (fun c_4 => ?_)
            · skip
              have c_4 : ((((x.toUInt64 >>> ((nI (8 * i)).toInt64.toUInt64 &&& Int64.toUInt64 63)).toInt64) &&& 255).toInt32) ≤ 126 := c_4
              refine lv_iinc (pc := 58) (v := nI (i + 1)) (lv' := [(2, .int (nI (i + 1))), (5, .int ((((x.toUInt64 >>> ((nI (8 * i)).toInt64.toUInt64 &&& Int64.toUInt64 63)).toInt64) &&& 255).toInt32)), (3, .long ((x.toUInt64 >>> ((nI (8 * i)).toInt64.toUInt64 &&& Int64.toUInt64 63)).toInt64)), (0, .long x)]) hx hb dX2_numberOf_58 hl (k := 2) rfl (nI_add i 1) (by decide) rfl (fun ls hl => ?_)
              refine lv_goto (pc := 61) (tgt := 2) hx hb dX2_numberOf_61 (by decide) ?_
              exact ih_2 (i + 1) (by omega) (by rw [← hv, p_num_s (by omega : i < 8)]; simp only [if_neg c_2, if_neg c_3, if_pos c_4, if_neg c_1]) (by omega) ls (lv_sub hl [0, 3] rfl)
            · skip
              have c_4 : ¬ (((((x.toUInt64 >>> ((nI (8 * i)).toInt64.toUInt64 &&& Int64.toUInt64 63)).toInt64) &&& 255).toInt32) ≤ 126) := c_4
              refine lv_bipush (pc := 55) (v := (-2)) hx hb dX2_numberOf_55 (by decide) ?_
              subst hQ
              exact b_retR hx hb hr hlocks (by rw [← hv, p_num_s (by omega)]; simp only [if_neg c_2, if_neg c_3, if_neg c_4, if_neg c_1]) dX2_numberOf_57
        · skip
          have c_2 : ((((x.toUInt64 >>> ((nI (8 * i)).toInt64.toUInt64 &&& Int64.toUInt64 63)).toInt64) &&& 255).toInt32) = 0 := c_2
          refine lv_lload_n (pc := 28) hx hb dX2_numberOf_28 rfl (lv_at hl 1 rfl) ?_
          refine lv_lconst (pc := 29) (v := 0) hx hb dX2_numberOf_29 (by decide) ?_
          refine W.lcmp (pc := 30) hx hb dX2_numberOf_30 ?_
          refine lv_if_ne (pc := 31) (tgt := 38) hx hb dX2_numberOf_31 (by decide) (fun c_5 => ?_) (fun c_5 => ?_)
          · skip
            have c_5 : ¬ (((x.toUInt64 >>> ((nI (8 * i)).toInt64.toUInt64 &&& Int64.toUInt64 63)).toInt64) = 0) := fun h9 => c_5 ((lg_cmp_eq ((x.toUInt64 >>> ((nI (8 * i)).toInt64.toUInt64 &&& Int64.toUInt64 63)).toInt64) 0).mpr h9)
            refine lv_bipush (pc := 38) (v := (-2)) hx hb dX2_numberOf_38 (by decide) ?_
            subst hQ
            exact b_retR hx hb hr hlocks (by rw [← hv, p_num_s (by omega)]; simp only [if_pos c_2, if_neg c_5, if_neg c_1]) dX2_numberOf_40
          · skip
            have c_5 : ((x.toUInt64 >>> ((nI (8 * i)).toInt64.toUInt64 &&& Int64.toUInt64 63)).toInt64) = 0 := (lg_cmp_eq ((x.toUInt64 >>> ((nI (8 * i)).toInt64.toUInt64 &&& Int64.toUInt64 63)).toInt64) 0).mp c_5
            refine lv_iload_n (pc := 34) hx hb dX2_numberOf_34 rfl (lv_at hl 2 rfl) ?_
            refine lv_goto (pc := 35) (tgt := 40) hx hb dX2_numberOf_35 (by decide) ?_
            subst hQ
            exact b_retR hx hb hr hlocks (by rw [← hv, p_num_s (by omega)]; simp only [if_pos c_2, if_pos c_5, if_neg c_1]) dX2_numberOf_40
  exact loop_2 9 0 (Nat.zero_le _) rfl (by omega) ls (lv_sub hl [0, 1] rfl)
theorem hw_X2_hasRoomFor_0 : (.fieldLink RX2 15 "BeamTurnstiles$Pad" "length" "I" : Cond) ∈ wsX2_hasRoomFor := by decide +kernel
theorem hi_X2_hasRoomFor_X2 : ∀ w ∈ wsX20, w ∈ wsX2_hasRoomFor := by decide +kernel
set_option maxHeartbeats 4000000 in
set_option maxRecDepth 100000 in
theorem c_X2_hasRoomFor (l : Launch) (D : va_G) (cI cC cZ cG : ClassId) (d : Nat) (t : Nat) (n : Nat) (tx : Nat → Int32) (x : Int32) : Met l yX2_hasRoomFor wsX2_hasRoomFor ({ frames := 0, cells := 0, slots := 0, locals := 0 } : Room) (b_R D (b_T cI cC cZ cG) [(d, .inr (2, [.ref t, .int (nI n)])), (t, .inl (cC, 60, .inl tx))] [.ref d, .int x]) (vp_Si (fun r => r = b_i (¬ 60 < nI n + x))) 0 0 (fun _ => False) := by
  refine b_enterR (cc := cX2_hasRoomFor) (maxL := 2) (ret := (some .boolean)) (by decide) rfl (Nat.le_of_ble_eq_true rfl) ?_
  intro p e s m below meth c ls hx hb hr hml hown hts hlocks hP hK hl Q hQ
  have hown : s.vm.findClass RX2 = some m.cls := hown
  have hl : lv_has ls 2 [(0, .ref d), (1, .int x)] := hl
  refine lv_aload_n (pc := 0) hx hb dX2_hasRoomFor_0 rfl (lv_at hl 0 rfl) ?_
  refine va_get (pc := 1) (D := D) (ci := 2) (v := .int (nI n)) (C := RX2) (T := TX2) (N := 2) hx hb hts hi_X2_hasRoomFor_X2 hown hK hP 0 rfl rfl 1 (by decide) (hts _ hw_X2_hasRoomFor_0) (fun _ h9 => h9) rfl dX2_hasRoomFor_1 ?_
  refine lv_iload_n (pc := 4) hx hb dX2_hasRoomFor_4 rfl (lv_at hl 1 rfl) ?_
  refine lv_iadd (pc := 5) hx hb dX2_hasRoomFor_5 ?_
  refine lv_bipush (pc := 6) (v := 60) hx hb dX2_hasRoomFor_6 (by decide) ?_
  refine lv_icmp_gt (pc := 8) (tgt := 15) hx hb dX2_hasRoomFor_8 (by decide) (fun c_1 => ?_) (fun c_1 => ?_)
  · skip
    have c_1 : 60 < ((nI n) + x) := c_1
    refine lv_iconst (pc := 15) (v := 0) hx hb dX2_hasRoomFor_15 (by decide) ?_
    subst hQ
    exact b_retRZ hx hb hr hlocks rfl ((b_i_f (by first | assumption | (intro h9; exact absurd h9.1 (by assumption)) | (intro h9; exact h9.2 (by assumption)) | (intro h9; exact h9.1 (by assumption)) | (intro h9; exact absurd (by assumption) h9) | (intro h9; exact h9.elim (fun q => absurd q (by assumption)) (fun q => absurd (by assumption) q)))).symm) dX2_hasRoomFor_16
  · skip
    have c_1 : ¬ (60 < ((nI n) + x)) := c_1
    refine lv_iconst (pc := 11) (v := 1) hx hb dX2_hasRoomFor_11 (by decide) ?_
    refine lv_goto (pc := 12) (tgt := 16) hx hb dX2_hasRoomFor_12 (by decide) ?_
    subst hQ
    exact b_retRZ hx hb hr hlocks rfl ((b_i_t (by first | assumption | (refine ⟨?_, ?_⟩ <;> assumption) | exact Or.inl (by assumption) | exact Or.inr (by assumption))).symm) dX2_hasRoomFor_16
theorem hw_X2_empty_0 : (.fieldLink RX2 15 "BeamTurnstiles$Pad" "length" "I" : Cond) ∈ wsX2_empty := by decide +kernel
theorem hi_X2_empty_X2 : ∀ w ∈ wsX20, w ∈ wsX2_empty := by decide +kernel
set_option maxHeartbeats 4000000 in
set_option maxRecDepth 100000 in
theorem c_X2_empty (l : Launch) (D : va_G) (cI cC cZ cG : ClassId) (tb lo hi : Nat) (sz : Nat) (d : Nat) (t : Nat) (n : Nat) (tx : Nat → Int32) : Met l yX2_empty wsX2_empty ({ frames := 0, cells := 0, slots := 0, locals := 0 } : Room) (b_W D (b_T cI cC cZ cG) (b_X tb lo hi) [(d, .inr (2, [.ref t, .int (nI n)])), (t, .inl (cC, 60, .inl tx))] sz [.ref d]) (b_Qv D [(d, .inr (2, [.ref t, .int (nI 0)])), (t, .inl (cC, 60, .inl tx))] (va_A [(d, .inr (2, [.ref t, .int (nI n)])), (t, .inl (cC, 60, .inl tx))] sz)) 0 0 (va_A [(d, .inr (2, [.ref t, .int (nI n)])), (t, .inl (cC, 60, .inl tx))] sz) := by
  refine b_enterW (Qc := fun A => b_Qv D [(d, .inr (2, [.ref t, .int (nI 0)])), (t, .inl (cC, 60, .inl tx))] A) (cc := cX2_empty) (maxL := 1) (ret := none) (by decide) rfl (Nat.le_of_ble_eq_true rfl) ?_
  intro p e s m below meth c ls A hx hb hr hml hown hts hlocks hname hP hK hD hA hS hX hl Q hQ
  have hown : s.vm.findClass RX2 = some m.cls := hown
  have hl : lv_has ls 1 [(0, .ref d)] := hl
  refine lv_aload_n (pc := 0) hx hb dX2_empty_0 rfl (lv_at hl 0 rfl) ?_
  refine lv_iconst (pc := 1) (v := 0) hx hb dX2_empty_1 (by decide) ?_
  refine va_put (pc := 2) (D := D) (ci := 2) (v := .int 0) (ty := .int) (C := RX2) (T := TX2) (N := 2) hx hb hts hi_X2_empty_X2 tyX2 tyX2_ok nmX2 hown hK hP hD hS 0 rfl rfl 1 (by decide) (hts _ hw_X2_empty_0) (fun _ h9 => h9) rfl (by decide +kernel) rfl rfl (Nat.le_of_ble_eq_true rfl) dX2_empty_2 (fun H locs hP hD hS => ?_)
  have hP : va_P D vwCl [(d, .inr (2, [.ref t, .int 0])), (t, .inl (cC, 60, .inl tx))] H := hP
  have hD : va_D A [(d, .inr (2, [.ref t, .int 0])), (t, .inl (cC, 60, .inl tx))] := hD
  subst hQ
  exact b_retV hx hb hr hlocks hS (hP) dX2_empty_5
set_option maxHeartbeats 4000000 in
set_option maxRecDepth 100000 in
theorem c_X2_isGateDigit (l : Launch) (D : va_G) (cI cC cZ cG : ClassId) (x : Int32) : Met l yX2_isGateDigit wsX2_isGateDigit ({ frames := 0, cells := 0, slots := 0, locals := 0 } : Room) (b_R D (b_T cI cC cZ cG) [] [.int x]) (vp_Si (fun r => r = b_i (p_gd x))) 0 0 (fun _ => False) := by
  refine b_enterR (cc := cX2_isGateDigit) (maxL := 1) (ret := (some .boolean)) (by decide) rfl (Nat.le_of_ble_eq_true rfl) ?_
  intro p e s m below meth c ls hx hb hr hml hown hts hlocks hP hK hl Q hQ
  have hown : s.vm.findClass RX2 = some m.cls := hown
  have hl : lv_has ls 1 [(0, .int x)] := hl
  refine lv_iload_n (pc := 0) hx hb dX2_isGateDigit_0 rfl (lv_at hl 0 rfl) ?_
  refine lv_bipush (pc := 1) (v := 48) hx hb dX2_isGateDigit_1 (by decide) ?_
  refine lv_icmp_lt (pc := 3) (tgt := 16) hx hb dX2_isGateDigit_3 (by decide) (fun c_1 => ?_) (fun c_1 => ?_)
  · skip
    have c_1 : x < 48 := c_1
    refine lv_iconst (pc := 16) (v := 0) hx hb dX2_isGateDigit_16 (by decide) ?_
    subst hQ
    exact b_retRZ hx hb hr hlocks rfl ((b_i_f (by first | assumption | (intro h9; exact absurd h9.1 (by assumption)) | (intro h9; exact h9.2 (by assumption)) | (intro h9; exact h9.1 (by assumption)) | (intro h9; exact absurd (by assumption) h9) | (intro h9; exact h9.elim (fun q => absurd q (by assumption)) (fun q => absurd (by assumption) q)))).symm) dX2_isGateDigit_17
  · skip
    have c_1 : ¬ (x < 48) := c_1
    refine lv_iload_n (pc := 6) hx hb dX2_isGateDigit_6 rfl (lv_at hl 0 rfl) ?_
    refine lv_bipush (pc := 7) (v := 54) hx hb dX2_isGateDigit_7 (by decide) ?_
    refine lv_icmp_ge (pc := 9) (tgt := 16) hx hb dX2_isGateDigit_9 (by decide) (fun c_2 => ?_) (fun c_2 => ?_)
    · skip
      have c_2 : 54 ≤ x := c_2
      refine lv_iconst (pc := 16) (v := 0) hx hb dX2_isGateDigit_16 (by decide) ?_
      subst hQ
      exact b_retRZ hx hb hr hlocks rfl ((b_i_f (by first | assumption | (intro h9; exact absurd h9.1 (by assumption)) | (intro h9; exact h9.2 (by assumption)) | (intro h9; exact h9.1 (by assumption)) | (intro h9; exact absurd (by assumption) h9) | (intro h9; exact h9.elim (fun q => absurd q (by assumption)) (fun q => absurd (by assumption) q)))).symm) dX2_isGateDigit_17
    · skip
      have c_2 : ¬ (54 ≤ x) := c_2
      refine lv_iconst (pc := 12) (v := 1) hx hb dX2_isGateDigit_12 (by decide) ?_
      refine lv_goto (pc := 13) (tgt := 17) hx hb dX2_isGateDigit_13 (by decide) ?_
      subst hQ
      exact b_retRZ hx hb hr hlocks rfl ((b_i_t (by first | assumption | (refine ⟨?_, ?_⟩ <;> assumption) | exact Or.inl (by assumption) | exact Or.inr (by assumption))).symm) dX2_isGateDigit_17
set_option maxHeartbeats 4000000 in
set_option maxRecDepth 100000 in
theorem c_X2_isDigit (l : Launch) (D : va_G) (cI cC cZ cG : ClassId) (x : Int32) : Met l yX2_isDigit wsX2_isDigit ({ frames := 0, cells := 0, slots := 0, locals := 0 } : Room) (b_R D (b_T cI cC cZ cG) [] [.int x]) (vp_Si (fun r => r = b_i (p_dg x))) 0 0 (fun _ => False) := by
  refine b_enterR (cc := cX2_isDigit) (maxL := 1) (ret := (some .boolean)) (by decide) rfl (Nat.le_of_ble_eq_true rfl) ?_
  intro p e s m below meth c ls hx hb hr hml hown hts hlocks hP hK hl Q hQ
  have hown : s.vm.findClass RX2 = some m.cls := hown
  have hl : lv_has ls 1 [(0, .int x)] := hl
  refine lv_iload_n (pc := 0) hx hb dX2_isDigit_0 rfl (lv_at hl 0 rfl) ?_
  refine lv_bipush (pc := 1) (v := 48) hx hb dX2_isDigit_1 (by decide) ?_
  refine lv_icmp_lt (pc := 3) (tgt := 16) hx hb dX2_isDigit_3 (by decide) (fun c_1 => ?_) (fun c_1 => ?_)
  · skip
    have c_1 : x < 48 := c_1
    refine lv_iconst (pc := 16) (v := 0) hx hb dX2_isDigit_16 (by decide) ?_
    subst hQ
    exact b_retRZ hx hb hr hlocks rfl ((b_i_f (by first | assumption | (intro h9; exact absurd h9.1 (by assumption)) | (intro h9; exact h9.2 (by assumption)) | (intro h9; exact h9.1 (by assumption)) | (intro h9; exact absurd (by assumption) h9) | (intro h9; exact h9.elim (fun q => absurd q (by assumption)) (fun q => absurd (by assumption) q)))).symm) dX2_isDigit_17
  · skip
    have c_1 : ¬ (x < 48) := c_1
    refine lv_iload_n (pc := 6) hx hb dX2_isDigit_6 rfl (lv_at hl 0 rfl) ?_
    refine lv_bipush (pc := 7) (v := 57) hx hb dX2_isDigit_7 (by decide) ?_
    refine lv_icmp_gt (pc := 9) (tgt := 16) hx hb dX2_isDigit_9 (by decide) (fun c_2 => ?_) (fun c_2 => ?_)
    · skip
      have c_2 : 57 < x := c_2
      refine lv_iconst (pc := 16) (v := 0) hx hb dX2_isDigit_16 (by decide) ?_
      subst hQ
      exact b_retRZ hx hb hr hlocks rfl ((b_i_f (by first | assumption | (intro h9; exact absurd h9.1 (by assumption)) | (intro h9; exact h9.2 (by assumption)) | (intro h9; exact h9.1 (by assumption)) | (intro h9; exact absurd (by assumption) h9) | (intro h9; exact h9.elim (fun q => absurd q (by assumption)) (fun q => absurd (by assumption) q)))).symm) dX2_isDigit_17
    · skip
      have c_2 : ¬ (57 < x) := c_2
      refine lv_iconst (pc := 12) (v := 1) hx hb dX2_isDigit_12 (by decide) ?_
      refine lv_goto (pc := 13) (tgt := 17) hx hb dX2_isDigit_13 (by decide) ?_
      subst hQ
      exact b_retRZ hx hb hr hlocks rfl ((b_i_t (by first | assumption | (refine ⟨?_, ?_⟩ <;> assumption) | exact Or.inl (by assumption) | exact Or.inr (by assumption))).symm) dX2_isDigit_17
set_option maxHeartbeats 4000000 in
set_option maxRecDepth 100000 in
theorem c_X2_afterEvent (l : Launch) (D : va_G) (cI cC cZ cG : ClassId) (x : Int32) : Met l yX2_afterEvent wsX2_afterEvent ({ frames := 0, cells := 0, slots := 0, locals := 0 } : Room) (b_R D (b_T cI cC cZ cG) [] [.int x]) (vp_Si (fun r => r = nI (p_ae x))) 0 0 (fun _ => False) := by
  refine b_enterR (cc := cX2_afterEvent) (maxL := 1) (ret := (some .int)) (by decide) rfl (Nat.le_of_ble_eq_true rfl) ?_
  intro p e s m below meth c ls hx hb hr hml hown hts hlocks hP hK hl Q hQ
  have hown : s.vm.findClass RX2 = some m.cls := hown
  have hl : lv_has ls 1 [(0, .int x)] := hl
  refine lv_iload_n (pc := 0) hx hb dX2_afterEvent_0 rfl (lv_at hl 0 rfl) ?_
  refine lv_bipush (pc := 1) (v := 59) hx hb dX2_afterEvent_1 (by decide) ?_
  refine lv_icmp_ne (pc := 3) (tgt := 10) hx hb dX2_afterEvent_3 (by decide) (fun c_1 => ?_) (fun c_1 => ?_)
  · skip
    have c_1 : ¬ (x = 59) := c_1
    refine lv_bipush (pc := 10) (v := 6) hx hb dX2_afterEvent_10 (by decide) ?_
    subst hQ
    exact b_retR hx hb hr hlocks ((show nI 6 = nI (p_ae x) from congrArg nI (by simp only [p_ae, if_neg c_1]))) dX2_afterEvent_12
  · skip
    have c_1 : x = 59 := c_1
    refine lv_iconst (pc := 6) (v := 0) hx hb dX2_afterEvent_6 (by decide) ?_
    refine lv_goto (pc := 7) (tgt := 12) hx hb dX2_afterEvent_7 (by decide) ?_
    subst hQ
    exact b_retR hx hb hr hlocks ((show nI 0 = nI (p_ae x) from congrArg nI (by simp only [p_ae, if_pos c_1]))) dX2_afterEvent_12
set_option maxHeartbeats 4000000 in
set_option maxRecDepth 100000 in
theorem c_X2_beamOf (l : Launch) (D : va_G) (cI cC cZ cG : ClassId) (x : Int32) : Met l yX2_beamOf wsX2_beamOf ({ frames := 0, cells := 0, slots := 0, locals := 0 } : Room) (b_R D (b_T cI cC cZ cG) [] [.int x]) (vp_Si (fun r => r = p_beam x)) 0 0 (fun _ => False) := by
  refine b_enterR (cc := cX2_beamOf) (maxL := 1) (ret := (some .int)) (by decide) rfl (Nat.le_of_ble_eq_true rfl) ?_
  intro p e s m below meth c ls hx hb hr hml hown hts hlocks hP hK hl Q hQ
  have hown : s.vm.findClass RX2 = some m.cls := hown
  have hl : lv_has ls 1 [(0, .int x)] := hl
  refine lv_iload_n (pc := 0) hx hb dX2_beamOf_0 rfl (lv_at hl 0 rfl) ?_
  refine lv_bipush (pc := 1) (v := 111) hx hb dX2_beamOf_1 (by decide) ?_
  refine lv_icmp_ne (pc := 3) (tgt := 8) hx hb dX2_beamOf_3 (by decide) (fun c_1 => ?_) (fun c_1 => ?_)
  · skip
    have c_1 : ¬ (x = 111) := c_1
    refine lv_iload_n (pc := 8) hx hb dX2_beamOf_8 rfl (lv_at hl 0 rfl) ?_
    refine lv_bipush (pc := 9) (v := 105) hx hb dX2_beamOf_9 (by decide) ?_
    refine lv_icmp_ne (pc := 11) (tgt := 16) hx hb dX2_beamOf_11 (by decide) (fun c_2 => ?_) (fun c_2 => ?_)
    · skip
      have c_2 : ¬ (x = 105) := c_2
      refine lv_iload_n (pc := 16) hx hb dX2_beamOf_16 rfl (lv_at hl 0 rfl) ?_
      refine lv_bipush (pc := 17) (v := 98) hx hb dX2_beamOf_17 (by decide) ?_
      refine lv_icmp_ne (pc := 19) (tgt := 26) hx hb dX2_beamOf_19 (by decide) (fun c_3 => ?_) (fun c_3 => ?_)
      · skip
        have c_3 : ¬ (x = 98) := c_3
        refine lv_bipush (pc := 26) (v := (-6)) hx hb dX2_beamOf_26 (by decide) ?_
        subst hQ
        exact b_retR hx hb hr hlocks (by first | rfl | (simp only [p_beam, if_neg c_1, if_neg c_2, if_neg c_3])) dX2_beamOf_28
      · skip
        have c_3 : x = 98 := c_3
        refine lv_iconst (pc := 22) (v := 2) hx hb dX2_beamOf_22 (by decide) ?_
        refine lv_goto (pc := 23) (tgt := 28) hx hb dX2_beamOf_23 (by decide) ?_
        subst hQ
        exact b_retR hx hb hr hlocks (by first | rfl | (simp only [p_beam, if_neg c_1, if_neg c_2, if_pos c_3])) dX2_beamOf_28
    · skip
      have c_2 : x = 105 := c_2
      refine lv_iconst (pc := 14) (v := 1) hx hb dX2_beamOf_14 (by decide) ?_
      subst hQ
      exact b_retR hx hb hr hlocks (by first | rfl | (simp only [p_beam, if_neg c_1, if_pos c_2])) dX2_beamOf_15
  · skip
    have c_1 : x = 111 := c_1
    refine lv_iconst (pc := 6) (v := 0) hx hb dX2_beamOf_6 (by decide) ?_
    subst hQ
    exact b_retR hx hb hr hlocks (by first | rfl | (simp only [p_beam, if_pos c_1])) dX2_beamOf_7
set_option maxHeartbeats 4000000 in
set_option maxRecDepth 100000 in
theorem c_X3_isNoGate (l : Launch) (D : va_G) (cI cC cZ cG : ClassId) (x : Int32) : Met l yX3_isNoGate wsX3_isNoGate ({ frames := 0, cells := 0, slots := 0, locals := 0 } : Room) (b_R D (b_T cI cC cZ cG) [] [.int x]) (vp_Si (fun r => r = b_i (p_ng x))) 0 0 (fun _ => False) := by
  refine b_enterR (cc := cX3_isNoGate) (maxL := 1) (ret := (some .boolean)) (by decide) rfl (Nat.le_of_ble_eq_true rfl) ?_
  intro p e s m below meth c ls hx hb hr hml hown hts hlocks hP hK hl Q hQ
  have hown : s.vm.findClass RX3 = some m.cls := hown
  have hl : lv_has ls 1 [(0, .int x)] := hl
  refine lv_iload_n (pc := 0) hx hb dX3_isNoGate_0 rfl (lv_at hl 0 rfl) ?_
  refine lv_if_lt (pc := 1) (tgt := 10) hx hb dX3_isNoGate_1 (by decide) (fun c_1 => ?_) (fun c_1 => ?_)
  · skip
    have c_1 : x < 0 := c_1
    refine lv_iconst (pc := 10) (v := 1) hx hb dX3_isNoGate_10 (by decide) ?_
    refine lv_goto (pc := 11) (tgt := 15) hx hb dX3_isNoGate_11 (by decide) ?_
    subst hQ
    exact b_retRZ hx hb hr hlocks rfl ((b_i_t (by first | assumption | (refine ⟨?_, ?_⟩ <;> assumption) | exact Or.inl (by assumption) | exact Or.inr (by assumption))).symm) dX3_isNoGate_15
  · skip
    have c_1 : ¬ (x < 0) := c_1
    refine lv_iload_n (pc := 4) hx hb dX3_isNoGate_4 rfl (lv_at hl 0 rfl) ?_
    refine lv_bipush (pc := 5) (v := 6) hx hb dX3_isNoGate_5 (by decide) ?_
    refine lv_icmp_lt (pc := 7) (tgt := 14) hx hb dX3_isNoGate_7 (by decide) (fun c_2 => ?_) (fun c_2 => ?_)
    · skip
      have c_2 : x < 6 := c_2
      refine lv_iconst (pc := 14) (v := 0) hx hb dX3_isNoGate_14 (by decide) ?_
      subst hQ
      exact b_retRZ hx hb hr hlocks rfl ((b_i_f (by first | assumption | (intro h9; exact absurd h9.1 (by assumption)) | (intro h9; exact h9.2 (by assumption)) | (intro h9; exact h9.1 (by assumption)) | (intro h9; exact absurd (by assumption) h9) | (intro h9; exact h9.elim (fun q => absurd q (by assumption)) (fun q => absurd (by assumption) q)))).symm) dX3_isNoGate_15
    · skip
      have c_2 : ¬ (x < 6) := c_2
      refine lv_iconst (pc := 10) (v := 1) hx hb dX3_isNoGate_10 (by decide) ?_
      refine lv_goto (pc := 11) (tgt := 15) hx hb dX3_isNoGate_11 (by decide) ?_
      subst hQ
      exact b_retRZ hx hb hr hlocks rfl ((b_i_t (by first | assumption | (refine ⟨?_, ?_⟩ <;> assumption) | exact Or.inl (by assumption) | exact Or.inr (by assumption))).symm) dX3_isNoGate_15
set_option maxHeartbeats 4000000 in
set_option maxRecDepth 100000 in
theorem c_X3_isNoSlot (l : Launch) (D : va_G) (cI cC cZ cG : ClassId) (x : Int32) : Met l yX3_isNoSlot wsX3_isNoSlot ({ frames := 0, cells := 0, slots := 0, locals := 0 } : Room) (b_R D (b_T cI cC cZ cG) [] [.int x]) (vp_Si (fun r => r = b_i (x < 0 ∨ ¬ x < 2))) 0 0 (fun _ => False) := by
  refine b_enterR (cc := cX3_isNoSlot) (maxL := 1) (ret := (some .boolean)) (by decide) rfl (Nat.le_of_ble_eq_true rfl) ?_
  intro p e s m below meth c ls hx hb hr hml hown hts hlocks hP hK hl Q hQ
  have hown : s.vm.findClass RX3 = some m.cls := hown
  have hl : lv_has ls 1 [(0, .int x)] := hl
  refine lv_iload_n (pc := 0) hx hb dX3_isNoSlot_0 rfl (lv_at hl 0 rfl) ?_
  refine lv_if_lt (pc := 1) (tgt := 9) hx hb dX3_isNoSlot_1 (by decide) (fun c_1 => ?_) (fun c_1 => ?_)
  · skip
    have c_1 : x < 0 := c_1
    refine lv_iconst (pc := 9) (v := 1) hx hb dX3_isNoSlot_9 (by decide) ?_
    refine lv_goto (pc := 10) (tgt := 14) hx hb dX3_isNoSlot_10 (by decide) ?_
    subst hQ
    exact b_retRZ hx hb hr hlocks rfl ((b_i_t (by first | assumption | (refine ⟨?_, ?_⟩ <;> assumption) | exact Or.inl (by assumption) | exact Or.inr (by assumption))).symm) dX3_isNoSlot_14
  · skip
    have c_1 : ¬ (x < 0) := c_1
    refine lv_iload_n (pc := 4) hx hb dX3_isNoSlot_4 rfl (lv_at hl 0 rfl) ?_
    refine lv_iconst (pc := 5) (v := 2) hx hb dX3_isNoSlot_5 (by decide) ?_
    refine lv_icmp_lt (pc := 6) (tgt := 13) hx hb dX3_isNoSlot_6 (by decide) (fun c_2 => ?_) (fun c_2 => ?_)
    · skip
      have c_2 : x < 2 := c_2
      refine lv_iconst (pc := 13) (v := 0) hx hb dX3_isNoSlot_13 (by decide) ?_
      subst hQ
      exact b_retRZ hx hb hr hlocks rfl ((b_i_f (by first | assumption | (intro h9; exact absurd h9.1 (by assumption)) | (intro h9; exact h9.2 (by assumption)) | (intro h9; exact h9.1 (by assumption)) | (intro h9; exact absurd (by assumption) h9) | (intro h9; exact h9.elim (fun q => absurd q (by assumption)) (fun q => absurd (by assumption) q)))).symm) dX3_isNoSlot_14
    · skip
      have c_2 : ¬ (x < 2) := c_2
      refine lv_iconst (pc := 9) (v := 1) hx hb dX3_isNoSlot_9 (by decide) ?_
      refine lv_goto (pc := 10) (tgt := 14) hx hb dX3_isNoSlot_10 (by decide) ?_
      subst hQ
      exact b_retRZ hx hb hr hlocks rfl ((b_i_t (by first | assumption | (refine ⟨?_, ?_⟩ <;> assumption) | exact Or.inl (by assumption) | exact Or.inr (by assumption))).symm) dX3_isNoSlot_14
set_option maxHeartbeats 4000000 in
set_option maxRecDepth 100000 in
theorem c_X2_stateAfter_0 (l : Launch) (D : va_G) (cI cC cZ cG : ClassId) (x : Int32) : Met l yX2_stateAfter wsX2_stateAfter ({ frames := 1, cells := 0, slots := 0, locals := 20 } : Room) (b_R D (b_T cI cC cZ cG) [] [.int (nI 0), .int x]) (vp_Si (fun r => r = nI (p_sa 0 x))) 0 0 (fun _ => False) := by
  refine b_enterR (cc := cX2_stateAfter) (maxL := 2) (ret := (some .int)) (by decide) rfl (Nat.le_of_ble_eq_true rfl) ?_
  intro p e s m below meth c ls hx hb hr hml hown hts hlocks hP hK hl Q hQ
  have hown : s.vm.findClass RX2 = some m.cls := hown
  have hl : lv_has ls 2 [(0, .int (nI 0)), (1, .int x)] := hl
  refine lv_iload_n (pc := 0) hx hb dX2_stateAfter_0 rfl (lv_at hl 0 rfl) ?_
  refine lv_tableIn (pc := 1) (tgt := 36) (off := 35) hx hb dX2_stateAfter_1 (by decide) (by decide) (by decide) (by decide) ?_
  refine lv_iload_n (pc := 36) hx hb dX2_stateAfter_36 rfl (lv_at hl 1 rfl) ?_
  refine lv_bipush (pc := 37) (v := 46) hx hb dX2_stateAfter_37 (by decide) ?_
  refine lv_icmp_ne (pc := 39) (tgt := 44) hx hb dX2_stateAfter_39 (by decide) (fun c_1 => ?_) (fun c_1 => ?_)
  · skip
    have c_1 : ¬ (x = 46) := c_1
    refine lv_iload_n (pc := 44) hx hb dX2_stateAfter_44 rfl (lv_at hl 1 rfl) ?_
    refine b_cR (pc := 45) (va_runS (As := [.int x]) (rest := []) ⟨hx, hb, hml, hown, hts⟩ (c_X2_isGateDigit l D cI cC cZ cG x) (va_cwS 1 hts gX2_stateAfter_X2_isGateDigit rfl rfl rfl hyS_X2_isGateDigit ⟨Nat.le_of_ble_eq_true rfl, Nat.le_of_ble_eq_true rfl⟩) (b_pRS (wc := []) hK hP [] rfl) rfl rfl hl.1 rfl (lv_room (Nat.le_of_ble_eq_true rfl)) dX2_stateAfter_45 ⟨Nat.zero_le _, Nat.zero_le _⟩) ?_
    refine lv_if_eq (pc := 48) (tgt := 55) hx hb dX2_stateAfter_48 (by decide) (fun c_2 => ?_) (fun c_2 => ?_)
    · skip
      have c_2 : ¬ (p_gd x) := b_i_0.mp c_2
      refine lv_bipush (pc := 55) (v := 6) hx hb dX2_stateAfter_55 (by decide) ?_
      subst hQ
      exact b_retR hx hb hr hlocks ((show nI 6 = nI (p_sa 0 x) from congrArg nI (by simp only [p_sa, (eq_true rfl : ((0 : Nat) = 0) = True), if_true, if_false, if_neg c_1, if_neg c_2]))) dX2_stateAfter_57
    · skip
      have c_2 : p_gd x := Classical.not_not.mp (fun h9 => c_2 (b_i_0.mpr h9))
      refine lv_iconst (pc := 51) (v := 1) hx hb dX2_stateAfter_51 (by decide) ?_
      refine lv_goto (pc := 52) (tgt := 57) hx hb dX2_stateAfter_52 (by decide) ?_
      subst hQ
      exact b_retR hx hb hr hlocks ((show nI 1 = nI (p_sa 0 x) from congrArg nI (by simp only [p_sa, (eq_true rfl : ((0 : Nat) = 0) = True), if_true, if_false, if_neg c_1, if_pos c_2]))) dX2_stateAfter_57
  · skip
    have c_1 : x = 46 := c_1
    refine lv_iconst (pc := 42) (v := 3) hx hb dX2_stateAfter_42 (by decide) ?_
    subst hQ
    exact b_retR hx hb hr hlocks ((show nI 3 = nI (p_sa 0 x) from congrArg nI (by simp only [p_sa, (eq_true rfl : ((0 : Nat) = 0) = True), if_true, if_false, if_pos c_1]))) dX2_stateAfter_43
set_option maxHeartbeats 4000000 in
set_option maxRecDepth 100000 in
theorem c_X2_stateAfter_1 (l : Launch) (D : va_G) (cI cC cZ cG : ClassId) (x : Int32) : Met l yX2_stateAfter wsX2_stateAfter ({ frames := 1, cells := 0, slots := 0, locals := 20 } : Room) (b_R D (b_T cI cC cZ cG) [] [.int (nI 1), .int x]) (vp_Si (fun r => r = nI (p_sa 1 x))) 0 0 (fun _ => False) := by
  refine b_enterR (cc := cX2_stateAfter) (maxL := 2) (ret := (some .int)) (by decide) rfl (Nat.le_of_ble_eq_true rfl) ?_
  intro p e s m below meth c ls hx hb hr hml hown hts hlocks hP hK hl Q hQ
  have hown : s.vm.findClass RX2 = some m.cls := hown
  have hl : lv_has ls 2 [(0, .int (nI 1)), (1, .int x)] := hl
  refine lv_iload_n (pc := 0) hx hb dX2_stateAfter_0 rfl (lv_at hl 0 rfl) ?_
  refine lv_tableIn (pc := 1) (tgt := 58) (off := 57) hx hb dX2_stateAfter_1 (by decide) (by decide) (by decide) (by decide) ?_
  refine lv_iload_n (pc := 58) hx hb dX2_stateAfter_58 rfl (lv_at hl 1 rfl) ?_
  refine b_cR (pc := 59) (va_runS (As := [.int x]) (rest := []) ⟨hx, hb, hml, hown, hts⟩ (c_X2_beamOf l D cI cC cZ cG x) (va_cwS 1 hts gX2_stateAfter_X2_beamOf rfl rfl rfl hyS_X2_beamOf ⟨Nat.le_of_ble_eq_true rfl, Nat.le_of_ble_eq_true rfl⟩) (b_pRS (wc := []) hK hP [] rfl) rfl rfl hl.1 rfl (lv_room (Nat.le_of_ble_eq_true rfl)) dX2_stateAfter_59 ⟨Nat.zero_le _, Nat.zero_le _⟩) ?_
  refine lv_if_lt (pc := 62) (tgt := 69) hx hb dX2_stateAfter_62 (by decide) (fun c_1 => ?_) (fun c_1 => ?_)
  · skip
    have c_1 : (p_beam x) < 0 := c_1
    refine lv_bipush (pc := 69) (v := 6) hx hb dX2_stateAfter_69 (by decide) ?_
    subst hQ
    exact b_retR hx hb hr hlocks ((show nI 6 = nI (p_sa 1 x) from congrArg nI (by simp only [p_sa, (eq_false (by decide) : ((1 : Nat) = 0) = False), (eq_true rfl : ((1 : Nat) = 1) = True), if_true, if_false, if_pos c_1]))) dX2_stateAfter_71
  · skip
    have c_1 : ¬ ((p_beam x) < 0) := c_1
    refine lv_iconst (pc := 65) (v := 2) hx hb dX2_stateAfter_65 (by decide) ?_
    refine lv_goto (pc := 66) (tgt := 71) hx hb dX2_stateAfter_66 (by decide) ?_
    subst hQ
    exact b_retR hx hb hr hlocks ((show nI 2 = nI (p_sa 1 x) from congrArg nI (by simp only [p_sa, (eq_false (by decide) : ((1 : Nat) = 0) = False), (eq_true rfl : ((1 : Nat) = 1) = True), if_true, if_false, if_neg c_1]))) dX2_stateAfter_71
set_option maxHeartbeats 4000000 in
set_option maxRecDepth 100000 in
theorem c_X2_stateAfter_2 (l : Launch) (D : va_G) (cI cC cZ cG : ClassId) (x : Int32) : Met l yX2_stateAfter wsX2_stateAfter ({ frames := 1, cells := 0, slots := 0, locals := 20 } : Room) (b_R D (b_T cI cC cZ cG) [] [.int (nI 2), .int x]) (vp_Si (fun r => r = nI (p_sa 2 x))) 0 0 (fun _ => False) := by
  refine b_enterR (cc := cX2_stateAfter) (maxL := 2) (ret := (some .int)) (by decide) rfl (Nat.le_of_ble_eq_true rfl) ?_
  intro p e s m below meth c ls hx hb hr hml hown hts hlocks hP hK hl Q hQ
  have hown : s.vm.findClass RX2 = some m.cls := hown
  have hl : lv_has ls 2 [(0, .int (nI 2)), (1, .int x)] := hl
  refine lv_iload_n (pc := 0) hx hb dX2_stateAfter_0 rfl (lv_at hl 0 rfl) ?_
  refine lv_tableIn (pc := 1) (tgt := 72) (off := 71) hx hb dX2_stateAfter_1 (by decide) (by decide) (by decide) (by decide) ?_
  refine lv_iload_n (pc := 72) hx hb dX2_stateAfter_72 rfl (lv_at hl 1 rfl) ?_
  refine b_cR (pc := 73) (va_runS (As := [.int x]) (rest := []) ⟨hx, hb, hml, hown, hts⟩ (c_X2_beamOf l D cI cC cZ cG x) (va_cwS 1 hts gX2_stateAfter_X2_beamOf rfl rfl rfl hyS_X2_beamOf ⟨Nat.le_of_ble_eq_true rfl, Nat.le_of_ble_eq_true rfl⟩) (b_pRS (wc := []) hK hP [] rfl) rfl rfl hl.1 rfl (lv_room (Nat.le_of_ble_eq_true rfl)) dX2_stateAfter_73 ⟨Nat.zero_le _, Nat.zero_le _⟩) ?_
  refine lv_if_lt (pc := 76) (tgt := 83) hx hb dX2_stateAfter_76 (by decide) (fun c_1 => ?_) (fun c_1 => ?_)
  · skip
    have c_1 : (p_beam x) < 0 := c_1
    refine lv_iload_n (pc := 83) hx hb dX2_stateAfter_83 rfl (lv_at hl 1 rfl) ?_
    refine b_cR (pc := 84) (va_runS (As := [.int x]) (rest := []) ⟨hx, hb, hml, hown, hts⟩ (c_X2_afterEvent l D cI cC cZ cG x) (va_cwS 1 hts gX2_stateAfter_X2_afterEvent rfl rfl rfl hyS_X2_afterEvent ⟨Nat.le_of_ble_eq_true rfl, Nat.le_of_ble_eq_true rfl⟩) (b_pRS (wc := []) hK hP [] rfl) rfl rfl hl.1 rfl (lv_room (Nat.le_of_ble_eq_true rfl)) dX2_stateAfter_84 ⟨Nat.zero_le _, Nat.zero_le _⟩) ?_
    subst hQ
    exact b_retR hx hb hr hlocks ((show nI (p_ae x) = nI (p_sa 2 x) from congrArg nI (by simp only [p_sa, (eq_false (by decide) : ((2 : Nat) = 0) = False), (eq_false (by decide) : ((2 : Nat) = 1) = False), (eq_true rfl : ((2 : Nat) = 2) = True), if_true, if_false, if_pos c_1]))) dX2_stateAfter_87
  · skip
    have c_1 : ¬ ((p_beam x) < 0) := c_1
    refine lv_iconst (pc := 79) (v := 2) hx hb dX2_stateAfter_79 (by decide) ?_
    refine lv_goto (pc := 80) (tgt := 87) hx hb dX2_stateAfter_80 (by decide) ?_
    subst hQ
    exact b_retR hx hb hr hlocks ((show nI 2 = nI (p_sa 2 x) from congrArg nI (by simp only [p_sa, (eq_false (by decide) : ((2 : Nat) = 0) = False), (eq_false (by decide) : ((2 : Nat) = 1) = False), (eq_true rfl : ((2 : Nat) = 2) = True), if_true, if_false, if_neg c_1]))) dX2_stateAfter_87
set_option maxHeartbeats 4000000 in
set_option maxRecDepth 100000 in
theorem c_X2_stateAfter_3 (l : Launch) (D : va_G) (cI cC cZ cG : ClassId) (x : Int32) : Met l yX2_stateAfter wsX2_stateAfter ({ frames := 1, cells := 0, slots := 0, locals := 20 } : Room) (b_R D (b_T cI cC cZ cG) [] [.int (nI 3), .int x]) (vp_Si (fun r => r = nI (p_sa 3 x))) 0 0 (fun _ => False) := by
  refine b_enterR (cc := cX2_stateAfter) (maxL := 2) (ret := (some .int)) (by decide) rfl (Nat.le_of_ble_eq_true rfl) ?_
  intro p e s m below meth c ls hx hb hr hml hown hts hlocks hP hK hl Q hQ
  have hown : s.vm.findClass RX2 = some m.cls := hown
  have hl : lv_has ls 2 [(0, .int (nI 3)), (1, .int x)] := hl
  refine lv_iload_n (pc := 0) hx hb dX2_stateAfter_0 rfl (lv_at hl 0 rfl) ?_
  refine lv_tableIn (pc := 1) (tgt := 88) (off := 87) hx hb dX2_stateAfter_1 (by decide) (by decide) (by decide) (by decide) ?_
  refine lv_iload_n (pc := 88) hx hb dX2_stateAfter_88 rfl (lv_at hl 1 rfl) ?_
  refine b_cR (pc := 89) (va_runS (As := [.int x]) (rest := []) ⟨hx, hb, hml, hown, hts⟩ (c_X2_isDigit l D cI cC cZ cG x) (va_cwS 1 hts gX2_stateAfter_X2_isDigit rfl rfl rfl hyS_X2_isDigit ⟨Nat.le_of_ble_eq_true rfl, Nat.le_of_ble_eq_true rfl⟩) (b_pRS (wc := []) hK hP [] rfl) rfl rfl hl.1 rfl (lv_room (Nat.le_of_ble_eq_true rfl)) dX2_stateAfter_89 ⟨Nat.zero_le _, Nat.zero_le _⟩) ?_
  refine lv_if_eq (pc := 92) (tgt := 105) hx hb dX2_stateAfter_92 (by decide) (fun c_1 => ?_) (fun c_1 => ?_)
  · skip
    have c_1 : ¬ (p_dg x) := b_i_0.mp c_1
    refine lv_bipush (pc := 105) (v := 6) hx hb dX2_stateAfter_105 (by decide) ?_
    subst hQ
    exact b_retR hx hb hr hlocks ((show nI 6 = nI (p_sa 3 x) from congrArg nI (by simp only [p_sa, (eq_false (by decide) : ((3 : Nat) = 0) = False), (eq_false (by decide) : ((3 : Nat) = 1) = False), (eq_false (by decide) : ((3 : Nat) = 2) = False), (eq_true rfl : ((3 : Nat) = 3) = True), if_true, if_false, if_neg c_1]))) dX2_stateAfter_107
  · skip
    have c_1 : p_dg x := Classical.not_not.mp (fun h9 => c_1 (b_i_0.mpr h9))
    refine lv_iload_n (pc := 95) hx hb dX2_stateAfter_95 rfl (lv_at hl 1 rfl) ?_
    refine lv_bipush (pc := 96) (v := 48) hx hb dX2_stateAfter_96 (by decide) ?_
    refine lv_icmp_eq (pc := 98) (tgt := 105) hx hb dX2_stateAfter_98 (by decide) (fun c_2 => ?_) (fun c_2 => ?_)
    · skip
      have c_2 : x = 48 := c_2
      refine lv_bipush (pc := 105) (v := 6) hx hb dX2_stateAfter_105 (by decide) ?_
      subst hQ
      exact b_retR hx hb hr hlocks ((show nI 6 = nI (p_sa 3 x) from congrArg nI (by simp only [p_sa, (eq_false (by decide) : ((3 : Nat) = 0) = False), (eq_false (by decide) : ((3 : Nat) = 1) = False), (eq_false (by decide) : ((3 : Nat) = 2) = False), (eq_true rfl : ((3 : Nat) = 3) = True), if_true, if_false, if_pos c_1, if_pos c_2]))) dX2_stateAfter_107
    · skip
      have c_2 : ¬ (x = 48) := c_2
      refine lv_iconst (pc := 101) (v := 4) hx hb dX2_stateAfter_101 (by decide) ?_
      refine lv_goto (pc := 102) (tgt := 107) hx hb dX2_stateAfter_102 (by decide) ?_
      subst hQ
      exact b_retR hx hb hr hlocks ((show nI 4 = nI (p_sa 3 x) from congrArg nI (by simp only [p_sa, (eq_false (by decide) : ((3 : Nat) = 0) = False), (eq_false (by decide) : ((3 : Nat) = 1) = False), (eq_false (by decide) : ((3 : Nat) = 2) = False), (eq_true rfl : ((3 : Nat) = 3) = True), if_true, if_false, if_pos c_1, if_neg c_2]))) dX2_stateAfter_107
set_option maxHeartbeats 4000000 in
set_option maxRecDepth 100000 in
theorem c_X2_stateAfter_4 (l : Launch) (D : va_G) (cI cC cZ cG : ClassId) (x : Int32) : Met l yX2_stateAfter wsX2_stateAfter ({ frames := 1, cells := 0, slots := 0, locals := 20 } : Room) (b_R D (b_T cI cC cZ cG) [] [.int (nI 4), .int x]) (vp_Si (fun r => r = nI (p_sa 4 x))) 0 0 (fun _ => False) := by
  refine b_enterR (cc := cX2_stateAfter) (maxL := 2) (ret := (some .int)) (by decide) rfl (Nat.le_of_ble_eq_true rfl) ?_
  intro p e s m below meth c ls hx hb hr hml hown hts hlocks hP hK hl Q hQ
  have hown : s.vm.findClass RX2 = some m.cls := hown
  have hl : lv_has ls 2 [(0, .int (nI 4)), (1, .int x)] := hl
  refine lv_iload_n (pc := 0) hx hb dX2_stateAfter_0 rfl (lv_at hl 0 rfl) ?_
  refine lv_tableIn (pc := 1) (tgt := 108) (off := 107) hx hb dX2_stateAfter_1 (by decide) (by decide) (by decide) (by decide) ?_
  refine lv_iload_n (pc := 108) hx hb dX2_stateAfter_108 rfl (lv_at hl 1 rfl) ?_
  refine b_cR (pc := 109) (va_runS (As := [.int x]) (rest := []) ⟨hx, hb, hml, hown, hts⟩ (c_X2_isDigit l D cI cC cZ cG x) (va_cwS 1 hts gX2_stateAfter_X2_isDigit rfl rfl rfl hyS_X2_isDigit ⟨Nat.le_of_ble_eq_true rfl, Nat.le_of_ble_eq_true rfl⟩) (b_pRS (wc := []) hK hP [] rfl) rfl rfl hl.1 rfl (lv_room (Nat.le_of_ble_eq_true rfl)) dX2_stateAfter_109 ⟨Nat.zero_le _, Nat.zero_le _⟩) ?_
  refine lv_if_eq (pc := 112) (tgt := 119) hx hb dX2_stateAfter_112 (by decide) (fun c_1 => ?_) (fun c_1 => ?_)
  · skip
    have c_1 : ¬ (p_dg x) := b_i_0.mp c_1
    refine lv_iload_n (pc := 119) hx hb dX2_stateAfter_119 rfl (lv_at hl 1 rfl) ?_
    refine b_cR (pc := 120) (va_runS (As := [.int x]) (rest := []) ⟨hx, hb, hml, hown, hts⟩ (c_X2_afterEvent l D cI cC cZ cG x) (va_cwS 1 hts gX2_stateAfter_X2_afterEvent rfl rfl rfl hyS_X2_afterEvent ⟨Nat.le_of_ble_eq_true rfl, Nat.le_of_ble_eq_true rfl⟩) (b_pRS (wc := []) hK hP [] rfl) rfl rfl hl.1 rfl (lv_room (Nat.le_of_ble_eq_true rfl)) dX2_stateAfter_120 ⟨Nat.zero_le _, Nat.zero_le _⟩) ?_
    subst hQ
    exact b_retR hx hb hr hlocks ((show nI (p_ae x) = nI (p_sa 4 x) from congrArg nI (by simp only [p_sa, (eq_false (by decide) : ((4 : Nat) = 0) = False), (eq_false (by decide) : ((4 : Nat) = 1) = False), (eq_false (by decide) : ((4 : Nat) = 2) = False), (eq_false (by decide) : ((4 : Nat) = 3) = False), (eq_true rfl : ((4 : Nat) = 4) = True), if_true, if_false, if_neg c_1]))) dX2_stateAfter_123
  · skip
    have c_1 : p_dg x := Classical.not_not.mp (fun h9 => c_1 (b_i_0.mpr h9))
    refine lv_iconst (pc := 115) (v := 5) hx hb dX2_stateAfter_115 (by decide) ?_
    refine lv_goto (pc := 116) (tgt := 123) hx hb dX2_stateAfter_116 (by decide) ?_
    subst hQ
    exact b_retR hx hb hr hlocks ((show nI 5 = nI (p_sa 4 x) from congrArg nI (by simp only [p_sa, (eq_false (by decide) : ((4 : Nat) = 0) = False), (eq_false (by decide) : ((4 : Nat) = 1) = False), (eq_false (by decide) : ((4 : Nat) = 2) = False), (eq_false (by decide) : ((4 : Nat) = 3) = False), (eq_true rfl : ((4 : Nat) = 4) = True), if_true, if_false, if_pos c_1]))) dX2_stateAfter_123
set_option maxHeartbeats 4000000 in
set_option maxRecDepth 100000 in
theorem c_X2_stateAfter_5 (l : Launch) (D : va_G) (cI cC cZ cG : ClassId) (x : Int32) : Met l yX2_stateAfter wsX2_stateAfter ({ frames := 1, cells := 0, slots := 0, locals := 20 } : Room) (b_R D (b_T cI cC cZ cG) [] [.int (nI 5), .int x]) (vp_Si (fun r => r = nI (p_sa 5 x))) 0 0 (fun _ => False) := by
  refine b_enterR (cc := cX2_stateAfter) (maxL := 2) (ret := (some .int)) (by decide) rfl (Nat.le_of_ble_eq_true rfl) ?_
  intro p e s m below meth c ls hx hb hr hml hown hts hlocks hP hK hl Q hQ
  have hown : s.vm.findClass RX2 = some m.cls := hown
  have hl : lv_has ls 2 [(0, .int (nI 5)), (1, .int x)] := hl
  refine lv_iload_n (pc := 0) hx hb dX2_stateAfter_0 rfl (lv_at hl 0 rfl) ?_
  refine lv_tableOut (pc := 1) (tgt := 124) hx hb dX2_stateAfter_1 (by decide) (by decide) ?_
  refine lv_iload_n (pc := 124) hx hb dX2_stateAfter_124 rfl (lv_at hl 1 rfl) ?_
  refine b_cR (pc := 125) (va_runS (As := [.int x]) (rest := []) ⟨hx, hb, hml, hown, hts⟩ (c_X2_afterEvent l D cI cC cZ cG x) (va_cwS 1 hts gX2_stateAfter_X2_afterEvent rfl rfl rfl hyS_X2_afterEvent ⟨Nat.le_of_ble_eq_true rfl, Nat.le_of_ble_eq_true rfl⟩) (b_pRS (wc := []) hK hP [] rfl) rfl rfl hl.1 rfl (lv_room (Nat.le_of_ble_eq_true rfl)) dX2_stateAfter_125 ⟨Nat.zero_le _, Nat.zero_le _⟩) ?_
  subst hQ
  exact b_retR hx hb hr hlocks ((show nI (p_ae x) = nI (p_sa 5 x) from congrArg nI (by simp only [p_sa, (eq_false (by decide) : ((5 : Nat) = 0) = False), (eq_false (by decide) : ((5 : Nat) = 1) = False), (eq_false (by decide) : ((5 : Nat) = 2) = False), (eq_false (by decide) : ((5 : Nat) = 3) = False), (eq_false (by decide) : ((5 : Nat) = 4) = False), if_true, if_false]))) dX2_stateAfter_128
set_option maxHeartbeats 4000000 in
set_option maxRecDepth 100000 in
theorem c_X2_stateAfter (l : Launch) (D : va_G) (cI cC cZ cG : ClassId) (q1 : Nat) (x : Int32) (hq1 : q1 < 6) : Met l yX2_stateAfter wsX2_stateAfter ({ frames := 1, cells := 0, slots := 0, locals := 20 } : Room) (b_R D (b_T cI cC cZ cG) [] [.int (nI q1), .int x]) (vp_Si (fun r => r = nI (p_sa q1 x))) 0 0 (fun _ => False) := by
  match q1, hq1 with
  | 0, _ => exact c_X2_stateAfter_0 l D cI cC cZ cG x
  | 1, _ => exact c_X2_stateAfter_1 l D cI cC cZ cG x
  | 2, _ => exact c_X2_stateAfter_2 l D cI cC cZ cG x
  | 3, _ => exact c_X2_stateAfter_3 l D cI cC cZ cG x
  | 4, _ => exact c_X2_stateAfter_4 l D cI cC cZ cG x
  | 5, _ => exact c_X2_stateAfter_5 l D cI cC cZ cG x
  | k + 6, h9 => exact absurd h9 (by omega)
theorem hw_X2_firstFault_0 : (.fieldLink RX2 15 "BeamTurnstiles$Pad" "length" "I" : Cond) ∈ wsX2_firstFault := by decide +kernel
theorem hi_X2_firstFault_X2 : ∀ w ∈ wsX20, w ∈ wsX2_firstFault := by decide +kernel
theorem hw_X2_firstFault_2 : (.fieldLink RX2 11 "BeamTurnstiles$Pad" "text" "[C" : Cond) ∈ wsX2_firstFault := by decide +kernel
set_option maxHeartbeats 4000000 in
set_option maxRecDepth 100000 in
theorem c_X2_firstFault (l : Launch) (D : va_G) (cI cC cZ cG : ClassId) (d : Nat) (t : Nat) (n : Nat) (tx : Nat → Int32) (hn60 : n ≤ 60) : Met l yX2_firstFault wsX2_firstFault ({ frames := 2, cells := 0, slots := 0, locals := 41 } : Room) (b_R D (b_T cI cC cZ cG) [(d, .inr (2, [.ref t, .int (nI n)])), (t, .inl (cC, 60, .inl tx))] [.ref d]) (vp_Si (fun r => r = p_ff tx n n 0 0)) 0 0 (fun _ => False) := by
  refine b_enterR (cc := cX2_firstFault) (maxL := 3) (ret := (some .int)) (by decide) rfl (Nat.le_of_ble_eq_true rfl) ?_
  intro p e s m below meth c ls hx hb hr hml hown hts hlocks hP hK hl Q hQ
  have hown : s.vm.findClass RX2 = some m.cls := hown
  have hl : lv_has ls 3 [(0, .ref d)] := hl
  refine lv_iconst (pc := 0) (v := 0) hx hb dX2_firstFault_0 (by decide) ?_
  refine lv_istore_n (pc := 1) (lv' := [(1, .int 0), (0, .ref d)]) hx hb dX2_firstFault_1 rfl hl (by decide) rfl (fun ls hl => ?_)
  refine lv_iconst (pc := 2) (v := 0) hx hb dX2_firstFault_2 (by decide) ?_
  refine lv_istore_n (pc := 3) (lv' := [(2, .int 0), (1, .int 0), (0, .ref d)]) hx hb dX2_firstFault_3 rfl hl (by decide) rfl (fun ls hl => ?_)
  have loop_4 : ∀ (fu : Nat) (a1 : Nat) (q1 : Nat), (a1 ≤ n) → (q1 < 6) → (p_ff tx n (n - a1) a1 q1 = p_ff tx n n 0 0) → n - a1 < fu → ∀ (ls : Array Slot), lv_has ls 3 [(2, .int (nI a1)), (1, .int (nI q1)), (0, .ref d)] → W p l e ({ frames := 2, cells := 0, slots := 0, locals := 41 } : Room) s m ([.ref d] : List Value).toArray below meth c s.heap [] 0 0 Q (F0 m 4 ls []) := by
    intro fu
    induction fu with
    | zero => intro a1 q1 ha hq hv hn ls hl; exact absurd hn (Nat.not_lt_zero _)
    | succ fu ih_4 =>
      intro a1 q1 ha hq hv hn ls hl
      refine lv_iload_n (pc := 4) hx hb dX2_firstFault_4 rfl (lv_at hl 0 rfl) ?_
      refine lv_aload_n (pc := 5) hx hb dX2_firstFault_5 rfl (lv_at hl 2 rfl) ?_
      refine va_get (pc := 6) (D := D) (ci := 2) (v := .int (nI n)) (C := RX2) (T := TX2) (N := 2) hx hb hts hi_X2_firstFault_X2 hown hK hP 0 rfl rfl 1 (by decide) (hts _ hw_X2_firstFault_0) (fun _ h9 => h9) rfl dX2_firstFault_6 ?_
      refine lv_icmp_ge (pc := 9) (tgt := 37) hx hb dX2_firstFault_9 (by decide) (fun c_1 => ?_) (fun c_1 => ?_)
      · skip
        have c_1 : n ≤ a1 := (nI_leI (a := n) (b := a1) (by omega) (by omega)).mp c_1
        refine lv_iload_n (pc := 37) hx hb dX2_firstFault_37 rfl (lv_at hl 1 rfl) ?_
        refine lv_iconst (pc := 38) (v := 2) hx hb dX2_firstFault_38 (by decide) ?_
        refine lv_icmp_eq (pc := 39) (tgt := 52) hx hb dX2_firstFault_39 (by decide) (fun c_2 => ?_) (fun c_2 => ?_)
        · skip
          have c_2 : q1 = 2 := (nI_eq (a := q1) (b := 2) (by omega) (by omega)).mp c_2
          refine lv_iconst (pc := 52) (v := 1) hx hb dX2_firstFault_52 (by decide) ?_
          refine lv_goto (pc := 53) (tgt := 57) hx hb dX2_firstFault_53 (by decide) ?_
          refine lv_istore_n (pc := 57) (lv' := [(2, .int 1), (1, .int (nI q1)), (0, .ref d)]) hx hb dX2_firstFault_57 rfl hl (by decide) rfl (fun ls hl => ?_)
          refine lv_iload_n (pc := 58) hx hb dX2_firstFault_58 rfl (lv_at hl 0 rfl) ?_
          refine lv_if_eq (pc := 59) (tgt := 67) hx hb dX2_firstFault_59 (by decide) (fun c_3 => ?_) (fun c_3 => ?_)
          · skip
            exact absurd c_3 (by decide)
          · skip
            refine lv_bipush (pc := 62) (v := (-6)) hx hb dX2_firstFault_62 (by decide) ?_
            refine lv_goto (pc := 64) (tgt := 71) hx hb dX2_firstFault_64 (by decide) ?_
            subst hQ
            exact b_retR hx hb hr hlocks (by have e9 : a1 = n := (by omega); rw [← hv, e9, Nat.sub_self]; simp only [p_ff, if_pos c_2]) dX2_firstFault_71
        · skip
          have c_2 : ¬ (q1 = 2) := fun h9 => c_2 ((nI_eq (a := q1) (b := 2) (by omega) (by omega)).mpr h9)
          refine lv_iload_n (pc := 42) hx hb dX2_firstFault_42 rfl (lv_at hl 1 rfl) ?_
          refine lv_iconst (pc := 43) (v := 4) hx hb dX2_firstFault_43 (by decide) ?_
          refine lv_icmp_eq (pc := 44) (tgt := 52) hx hb dX2_firstFault_44 (by decide) (fun c_4 => ?_) (fun c_4 => ?_)
          · skip
            have c_4 : q1 = 4 := (nI_eq (a := q1) (b := 4) (by omega) (by omega)).mp c_4
            refine lv_iconst (pc := 52) (v := 1) hx hb dX2_firstFault_52 (by decide) ?_
            refine lv_goto (pc := 53) (tgt := 57) hx hb dX2_firstFault_53 (by decide) ?_
            refine lv_istore_n (pc := 57) (lv' := [(2, .int 1), (1, .int (nI q1)), (0, .ref d)]) hx hb dX2_firstFault_57 rfl hl (by decide) rfl (fun ls hl => ?_)
            refine lv_iload_n (pc := 58) hx hb dX2_firstFault_58 rfl (lv_at hl 0 rfl) ?_
            refine lv_if_eq (pc := 59) (tgt := 67) hx hb dX2_firstFault_59 (by decide) (fun c_5 => ?_) (fun c_5 => ?_)
            · skip
              exact absurd c_5 (by decide)
            · skip
              refine lv_bipush (pc := 62) (v := (-6)) hx hb dX2_firstFault_62 (by decide) ?_
              refine lv_goto (pc := 64) (tgt := 71) hx hb dX2_firstFault_64 (by decide) ?_
              subst hQ
              exact b_retR hx hb hr hlocks (by have e9 : a1 = n := (by omega); rw [← hv, e9, Nat.sub_self]; simp only [p_ff, if_neg c_2, if_pos c_4]) dX2_firstFault_71
          · skip
            have c_4 : ¬ (q1 = 4) := fun h9 => c_4 ((nI_eq (a := q1) (b := 4) (by omega) (by omega)).mpr h9)
            refine lv_iload_n (pc := 47) hx hb dX2_firstFault_47 rfl (lv_at hl 1 rfl) ?_
            refine lv_iconst (pc := 48) (v := 5) hx hb dX2_firstFault_48 (by decide) ?_
            refine lv_icmp_ne (pc := 49) (tgt := 56) hx hb dX2_firstFault_49 (by decide) (fun c_6 => ?_) (fun c_6 => ?_)
            · skip
              have c_6 : ¬ (q1 = 5) := fun h9 => c_6 ((nI_eq (a := q1) (b := 5) (by omega) (by omega)).mpr h9)
              refine lv_iconst (pc := 56) (v := 0) hx hb dX2_firstFault_56 (by decide) ?_
              refine lv_istore_n (pc := 57) (lv' := [(2, .int 0), (1, .int (nI q1)), (0, .ref d)]) hx hb dX2_firstFault_57 rfl hl (by decide) rfl (fun ls hl => ?_)
              refine lv_iload_n (pc := 58) hx hb dX2_firstFault_58 rfl (lv_at hl 0 rfl) ?_
              refine lv_if_eq (pc := 59) (tgt := 67) hx hb dX2_firstFault_59 (by decide) (fun c_7 => ?_) (fun c_7 => ?_)
              · skip
                refine lv_aload_n (pc := 67) hx hb dX2_firstFault_67 rfl (lv_at hl 2 rfl) ?_
                refine va_get (pc := 68) (D := D) (ci := 2) (v := .int (nI n)) (C := RX2) (T := TX2) (N := 2) hx hb hts hi_X2_firstFault_X2 hown hK hP 0 rfl rfl 1 (by decide) (hts _ hw_X2_firstFault_0) (fun _ h9 => h9) rfl dX2_firstFault_68 ?_
                subst hQ
                exact b_retR hx hb hr hlocks (by have e9 : a1 = n := (by omega); rw [← hv, e9, Nat.sub_self]; simp only [p_ff, if_neg c_2, if_neg c_4, if_neg c_6]) dX2_firstFault_71
              · skip
                exact absurd c_7 (by decide)
            · skip
              have c_6 : q1 = 5 := (nI_eq (a := q1) (b := 5) (by omega) (by omega)).mp c_6
              refine lv_iconst (pc := 52) (v := 1) hx hb dX2_firstFault_52 (by decide) ?_
              refine lv_goto (pc := 53) (tgt := 57) hx hb dX2_firstFault_53 (by decide) ?_
              refine lv_istore_n (pc := 57) (lv' := [(2, .int 1), (1, .int (nI q1)), (0, .ref d)]) hx hb dX2_firstFault_57 rfl hl (by decide) rfl (fun ls hl => ?_)
              refine lv_iload_n (pc := 58) hx hb dX2_firstFault_58 rfl (lv_at hl 0 rfl) ?_
              refine lv_if_eq (pc := 59) (tgt := 67) hx hb dX2_firstFault_59 (by decide) (fun c_8 => ?_) (fun c_8 => ?_)
              · skip
                exact absurd c_8 (by decide)
              · skip
                refine lv_bipush (pc := 62) (v := (-6)) hx hb dX2_firstFault_62 (by decide) ?_
                refine lv_goto (pc := 64) (tgt := 71) hx hb dX2_firstFault_64 (by decide) ?_
                subst hQ
                exact b_retR hx hb hr hlocks (by have e9 : a1 = n := (by omega); rw [← hv, e9, Nat.sub_self]; simp only [p_ff, if_neg c_2, if_neg c_4, if_pos c_6]) dX2_firstFault_71
      · skip
        have c_1 : ¬ (n ≤ a1) := fun h9 => c_1 ((nI_leI (a := n) (b := a1) (by omega) (by omega)).mpr h9)
        refine lv_iload_n (pc := 12) hx hb dX2_firstFault_12 rfl (lv_at hl 1 rfl) ?_
        refine lv_aload_n (pc := 13) hx hb dX2_firstFault_13 rfl (lv_at hl 2 rfl) ?_
        refine va_get (pc := 14) (D := D) (ci := 2) (v := .ref t) (C := RX2) (T := TX2) (N := 2) hx hb hts hi_X2_firstFault_X2 hown hK hP 0 rfl rfl 0 (by decide) (hts _ hw_X2_firstFault_2) (fun _ h9 => h9) rfl dX2_firstFault_14 ?_
        refine lv_iload_n (pc := 17) hx hb dX2_firstFault_17 rfl (lv_at hl 0 rfl) ?_
        refine b_cald (pc := 18) hx hb hK hP 1 1 rfl rfl a1 rfl (by omega) (by decide) dX2_firstFault_18 ?_
        refine b_cR (pc := 19) (va_runS (As := [.int (nI q1), .int (tx a1)]) (rest := []) ⟨hx, hb, hml, hown, hts⟩ (c_X2_stateAfter l D cI cC cZ cG q1 (tx a1) (by omega)) (va_cwS 2 hts gX2_firstFault_X2_stateAfter rfl rfl rfl hyS_X2_stateAfter ⟨Nat.le_of_ble_eq_true rfl, Nat.le_of_ble_eq_true rfl⟩) (b_pRS (wc := []) hK hP [] rfl) rfl rfl hl.1 rfl (lv_room (Nat.le_of_ble_eq_true rfl)) dX2_firstFault_19 ⟨Nat.zero_le _, Nat.zero_le _⟩) ?_
        have hs7 := p_sa_lt q1 (tx a1)
        refine lv_istore_n (pc := 22) (lv' := [(1, .int (nI (p_sa q1 (tx a1)))), (2, .int (nI a1)), (0, .ref d)]) hx hb dX2_firstFault_22 rfl hl (by decide) rfl (fun ls hl => ?_)
        refine lv_iload_n (pc := 23) hx hb dX2_firstFault_23 rfl (lv_at hl 0 rfl) ?_
        refine lv_bipush (pc := 24) (v := 6) hx hb dX2_firstFault_24 (by decide) ?_
        refine lv_icmp_ne (pc := 26) (tgt := 31) hx hb dX2_firstFault_26 (by decide) (fun c_9 => ?_) (fun c_9 => ?_)
        · skip
          have c_9 : ¬ (p_sa q1 (tx a1) = 6) := fun h9 => c_9 ((nI_eq (a := p_sa q1 (tx a1)) (b := 6) (by omega) (by omega)).mpr h9)
          refine lv_iinc (pc := 31) (v := nI (a1 + 1)) (lv' := [(2, .int (nI (a1 + 1))), (1, .int (nI (p_sa q1 (tx a1)))), (0, .ref d)]) hx hb dX2_firstFault_31 hl (k := 1) rfl (nI_add a1 1) (by decide) rfl (fun ls hl => ?_)
          refine lv_goto (pc := 34) (tgt := 4) hx hb dX2_firstFault_34 (by decide) ?_
          exact ih_4 (a1 + 1) (p_sa q1 (tx a1)) (by omega) (by omega) (by rw [← hv, p_ff_s (by omega : a1 < n)]; simp only [if_neg c_1, if_neg c_9]) (by omega) ls (lv_sub hl [0, 1, 2] rfl)
        · skip
          have c_9 : p_sa q1 (tx a1) = 6 := (nI_eq (a := p_sa q1 (tx a1)) (b := 6) (by omega) (by omega)).mp c_9
          refine lv_iload_n (pc := 29) hx hb dX2_firstFault_29 rfl (lv_at hl 1 rfl) ?_
          subst hQ
          exact b_retR hx hb hr hlocks (by rw [← hv, p_ff_s (by omega)]; simp only [if_neg c_1, if_pos c_9]) dX2_firstFault_30
  exact loop_4 (n + 1) 0 0 (Nat.zero_le _) (by decide) rfl (by omega) ls (lv_sub hl [0, 1, 2] rfl)
theorem hw_X2_numberIn_0 : (.fieldLink RX2 11 "BeamTurnstiles$Pad" "text" "[C" : Cond) ∈ wsX2_numberIn := by decide +kernel
theorem hi_X2_numberIn_X2 : ∀ w ∈ wsX20, w ∈ wsX2_numberIn := by decide +kernel
set_option maxHeartbeats 4000000 in
set_option maxRecDepth 100000 in
theorem c_X2_numberIn (l : Launch) (D : va_G) (cI cC cZ cG : ClassId) (d : Nat) (t : Nat) (n : Nat) (tx : Nat → Int32) (s1 : Nat) (t1 : Nat) (hst : s1 ≤ t1) (ht60 : t1 ≤ 60) : Met l yX2_numberIn wsX2_numberIn ({ frames := 0, cells := 0, slots := 0, locals := 0 } : Room) (b_R D (b_T cI cC cZ cG) [(d, .inr (2, [.ref t, .int (nI n)])), (t, .inl (cC, 60, .inl tx))] [.ref d, .int (nI s1), .int (nI t1)]) (vp_Si (fun r => r = p_ni tx (t1 - s1) s1 0)) 0 0 (fun _ => False) := by
  refine b_enterR (cc := cX2_numberIn) (maxL := 5) (ret := (some .int)) (by decide) rfl (Nat.le_of_ble_eq_true rfl) ?_
  intro p e s m below meth c ls hx hb hr hml hown hts hlocks hP hK hl Q hQ
  have hown : s.vm.findClass RX2 = some m.cls := hown
  have hl : lv_has ls 5 [(0, .ref d), (1, .int (nI s1)), (2, .int (nI t1))] := hl
  refine lv_iconst (pc := 0) (v := 0) hx hb dX2_numberIn_0 (by decide) ?_
  refine lv_istore_n (pc := 1) (lv' := [(3, .int 0), (0, .ref d), (1, .int (nI s1)), (2, .int (nI t1))]) hx hb dX2_numberIn_1 rfl hl (by decide) rfl (fun ls hl => ?_)
  refine lv_iload_n (pc := 2) hx hb dX2_numberIn_2 rfl (lv_at hl 2 rfl) ?_
  refine lv_istore (pc := 3) (lv' := [(4, .int (nI s1)), (3, .int 0), (0, .ref d), (1, .int (nI s1)), (2, .int (nI t1))]) hx hb dX2_numberIn_3 hl (by decide) rfl (fun ls hl => ?_)
  have loop_5 : ∀ (fu : Nat) (i1 : Nat) (x1 : Int32), (s1 ≤ i1) → (i1 ≤ t1) → (p_ni tx (t1 - i1) i1 x1 = p_ni tx (t1 - s1) s1 0) → t1 - i1 < fu → ∀ (ls : Array Slot), lv_has ls 5 [(4, .int (nI i1)), (3, .int x1), (0, .ref d), (1, .int (nI s1)), (2, .int (nI t1))] → W p l e ({ frames := 0, cells := 0, slots := 0, locals := 0 } : Room) s m ([.ref d, .int (nI s1), .int (nI t1)] : List Value).toArray below meth c s.heap [] 0 0 Q (F0 m 5 ls []) := by
    intro fu
    induction fu with
    | zero => intro i1 x1 h1 h2 hv hn ls hl; exact absurd hn (Nat.not_lt_zero _)
    | succ fu ih_5 =>
      intro i1 x1 h1 h2 hv hn ls hl
      refine lv_iload (pc := 5) hx hb dX2_numberIn_5 (lv_at hl 0 rfl) ?_
      refine lv_iload_n (pc := 7) hx hb dX2_numberIn_7 rfl (lv_at hl 4 rfl) ?_
      refine lv_icmp_ge (pc := 8) (tgt := 33) hx hb dX2_numberIn_8 (by decide) (fun c_1 => ?_) (fun c_1 => ?_)
      · skip
        have c_1 : t1 ≤ i1 := (nI_leI (a := t1) (b := i1) (by omega) (by omega)).mp c_1
        refine lv_iload_n (pc := 33) hx hb dX2_numberIn_33 rfl (lv_at hl 1 rfl) ?_
        subst hQ
        exact b_retR hx hb hr hlocks (by have e9 : i1 = t1 := (by omega); rw [← hv, e9, Nat.sub_self]; rfl) dX2_numberIn_34
      · skip
        have c_1 : ¬ (t1 ≤ i1) := fun h9 => c_1 ((nI_leI (a := t1) (b := i1) (by omega) (by omega)).mpr h9)
        refine lv_iload_n (pc := 11) hx hb dX2_numberIn_11 rfl (lv_at hl 1 rfl) ?_
        refine lv_bipush (pc := 12) (v := 10) hx hb dX2_numberIn_12 (by decide) ?_
        refine lv_imul (pc := 14) hx hb dX2_numberIn_14 ?_
        refine lv_aload_n (pc := 15) hx hb dX2_numberIn_15 rfl (lv_at hl 2 rfl) ?_
        refine va_get (pc := 16) (D := D) (ci := 2) (v := .ref t) (C := RX2) (T := TX2) (N := 2) hx hb hts hi_X2_numberIn_X2 hown hK hP 0 rfl rfl 0 (by decide) (hts _ hw_X2_numberIn_0) (fun _ h9 => h9) rfl dX2_numberIn_16 ?_
        refine lv_iload (pc := 19) hx hb dX2_numberIn_19 (lv_at hl 0 rfl) ?_
        refine b_cald (pc := 21) hx hb hK hP 1 1 rfl rfl i1 rfl (by omega) (by decide) dX2_numberIn_21 ?_
        refine lv_iadd (pc := 22) hx hb dX2_numberIn_22 ?_
        refine lv_bipush (pc := 23) (v := 48) hx hb dX2_numberIn_23 (by decide) ?_
        refine lv_isub (pc := 25) hx hb dX2_numberIn_25 ?_
        refine lv_istore_n (pc := 26) (lv' := [(3, .int (((x1 * 10) + (tx i1)) - 48)), (4, .int (nI i1)), (0, .ref d), (1, .int (nI s1)), (2, .int (nI t1))]) hx hb dX2_numberIn_26 rfl hl (by decide) rfl (fun ls hl => ?_)
        refine lv_iinc (pc := 27) (v := nI (i1 + 1)) (lv' := [(4, .int (nI (i1 + 1))), (3, .int (((x1 * 10) + (tx i1)) - 48)), (0, .ref d), (1, .int (nI s1)), (2, .int (nI t1))]) hx hb dX2_numberIn_27 hl (k := 1) rfl (nI_add i1 1) (by decide) rfl (fun ls hl => ?_)
        refine lv_goto (pc := 30) (tgt := 5) hx hb dX2_numberIn_30 (by decide) ?_
        exact ih_5 (i1 + 1) (((x1 * 10) + (tx i1)) - 48) (by omega) (by omega) (by rw [← hv, p_ni_s (by omega : i1 < t1)]) (by omega) ls (lv_sub hl [0, 1, 2, 3, 4] rfl)
  exact loop_5 (t1 - s1 + 1) s1 0 (Nat.le_refl _) hst rfl (by omega) ls (lv_sub hl [0, 1, 2, 3, 4] rfl)
set_option maxHeartbeats 4000000 in
set_option maxRecDepth 100000 in
theorem c_X2_letGoBy (l : Launch) (D : va_G) (cI cC cZ cG : ClassId) (tb lo hi : Nat) (sz : Nat) (h : Nat) (r : Nat) (f : Nat → Int32) (x : Int32) : Met l yX2_letGoBy wsX2_letGoBy ({ frames := 1, cells := 0, slots := 0, locals := 21 } : Room) (b_W D (b_T cI cC cZ cG) (b_X tb lo hi) [(h, .inr (0, [.ref r])), (r, .inl (cI, 86, .inl f))] sz [.ref h, .int x]) (b_Qv D [(h, .inr (0, [.ref r])), (r, .inl (cI, 86, .inl (h_let f x)))] (va_A [(h, .inr (0, [.ref r])), (r, .inl (cI, 86, .inl f))] sz)) 0 0 (va_A [(h, .inr (0, [.ref r])), (r, .inl (cI, 86, .inl f))] sz) := by
  refine b_enterW (Qc := fun A => b_Qv D [(h, .inr (0, [.ref r])), (r, .inl (cI, 86, .inl (h_let f x)))] A) (cc := cX2_letGoBy) (maxL := 2) (ret := none) (by decide) rfl (Nat.le_of_ble_eq_true rfl) ?_
  intro p e s m below meth c ls A hx hb hr hml hown hts hlocks hname hP hK hD hA hS hX hl Q hQ
  have hown : s.vm.findClass RX2 = some m.cls := hown
  have hl : lv_has ls 2 [(0, .ref h), (1, .int x)] := hl
  refine lv_aload_n (pc := 0) hx hb dX2_letGoBy_0 rfl (lv_at hl 0 rfl) ?_
  refine lv_iload_n (pc := 1) hx hb dX2_letGoBy_1 rfl (lv_at hl 1 rfl) ?_
  refine b_cR (pc := 2) (va_runV (As := [.int x]) (rest := []) ⟨hx, hb, hml, hown, hts⟩ (c_X0_hasRoomFor l D cI cC cZ cG h r f x) (cwV 1 hts gX2_letGoBy_X0_hasRoomFor rfl rfl rfl hy_X0_hasRoomFor ⟨Nat.le_of_ble_eq_true rfl, Nat.le_of_ble_eq_true rfl⟩) (b_pRV (wc := [(h, .inr (0, [.ref r])), (r, .inl (cI, 86, .inl f))]) hK hP [0, 1] rfl (ci := 0) (q0 := 0) rfl rfl) rfl rfl hl.1 rfl (lv_room (Nat.le_of_ble_eq_true rfl)) dX2_letGoBy_2 ⟨Nat.zero_le _, Nat.zero_le _⟩) ?_
  refine lv_if_eq (pc := 5) (tgt := 13) hx hb dX2_letGoBy_5 (by decide) (fun c_1 => ?_) (fun c_1 => ?_)
  · skip
    have c_1 : ¬ (¬ 99999 < f 3 + x) := b_i_0.mp c_1
    subst hQ
    exact b_retV hx hb hr hlocks hS (by first | exact hP | (refine (b_eqP ?_ hP); simp only [h_let, if_neg c_1])) dX2_letGoBy_13
  · skip
    have c_1 : ¬ 99999 < f 3 + x := Classical.not_not.mp (fun h9 => c_1 (b_i_0.mpr h9))
    refine lv_aload_n (pc := 8) hx hb dX2_letGoBy_8 rfl (lv_at hl 0 rfl) ?_
    refine lv_iload_n (pc := 9) hx hb dX2_letGoBy_9 rfl (lv_at hl 1 rfl) ?_
    refine b_cV (pc := 10) (w1 := [(h, .inr (0, [.ref r])), (r, .inl (cI, 86, .inl (h_goBy f x)))]) (va_runV (As := [.int x]) (rest := []) ⟨hx, hb, hml, hown, hts⟩ (c_X0_goBy l D cI cC cZ cG tb lo hi s.heap.size h r f x) (cwV 1 hts gX2_letGoBy_X0_goBy rfl rfl rfl hy_X0_goBy ⟨Nat.le_of_ble_eq_true rfl, Nat.le_of_ble_eq_true rfl⟩) (b_pWV (wc := [(h, .inr (0, [.ref r])), (r, .inl (cI, 86, .inl f))]) hK hP hD (b_Xok_X tb lo hi) [0, 1] rfl (by decide) rfl (b_Xc hX hD hS hA [0, 1] rfl) (ci := 0) (q0 := 0) rfl rfl) rfl rfl hl.1 rfl (lv_room (Nat.le_of_ble_eq_true rfl)) dX2_letGoBy_10 ⟨Nat.zero_le _, Nat.zero_le _⟩) hP hD hS hA [0, 1] rfl rfl (fun H locs hP hD hS => ?_)
    have hP : va_P D vwCl [(h, .inr (0, [.ref r])), (r, .inl (cI, 86, .inl (h_goBy f x)))] H := hP
    have hD : va_D A [(h, .inr (0, [.ref r])), (r, .inl (cI, 86, .inl (h_goBy f x)))] := hD
    obtain ⟨f_2, ef_2⟩ : ∃ z : Nat → Int32, z = h_goBy f x := ⟨_, rfl⟩
    have hP : va_P D vwCl [(h, .inr (0, [.ref r])), (r, .inl (cI, 86, .inl f_2))] H := by rw [ef_2]; exact hP
    have hD : va_D A [(h, .inr (0, [.ref r])), (r, .inl (cI, 86, .inl f_2))] := by rw [ef_2]; exact hD
    subst ef_2
    subst hQ
    exact b_retV hx hb hr hlocks hS (by first | exact hP | (refine (b_eqP ?_ hP); simp only [h_let, if_pos c_1])) dX2_letGoBy_13
theorem hw_X2_changeBeams_0 : (.fieldLink RX2 11 "BeamTurnstiles$Pad" "text" "[C" : Cond) ∈ wsX2_changeBeams := by decide +kernel
theorem hi_X2_changeBeams_X2 : ∀ w ∈ wsX20, w ∈ wsX2_changeBeams := by decide +kernel
theorem hw_X2_changeBeams_2 : (.initialized RX3 : Cond) ∈ wsX2_changeBeams := by decide +kernel
theorem hw_X2_changeBeams_3 : (.static yX3_isNoGate : Cond) ∈ wsX2_changeBeams := by decide +kernel
set_option maxHeartbeats 4000000 in
set_option maxRecDepth 100000 in
theorem c_X2_changeBeams (l : Launch) (D : va_G) (cI cC cZ cG : ClassId) (tb lo hi : Nat) (sz : Nat) (d : Nat) (t : Nat) (n : Nat) (tx : Nat → Int32) (h : Nat) (r : Nat) (f : Nat → Int32) (s1 : Nat) (t1 : Nat) (hst : s1 < t1) (ht60 : t1 ≤ 60) : Met l yX2_changeBeams wsX2_changeBeams ({ frames := 4, cells := 0, slots := 0, locals := 87 } : Room) (b_W D (b_T cI cC cZ cG) (b_X tb lo hi) [(d, .inr (2, [.ref t, .int (nI n)])), (t, .inl (cC, 60, .inl tx)), (h, .inr (0, [.ref r])), (r, .inl (cI, 86, .inl f))] sz [.ref d, .ref h, .int (nI s1), .int (nI t1)]) (b_Qi D ((p_chb tx s1 t1 f).2) [(d, .inr (2, [.ref t, .int (nI n)])), (t, .inl (cC, 60, .inl tx)), (h, .inr (0, [.ref r])), (r, .inl (cI, 86, .inl ((p_chb tx s1 t1 f).1)))] (va_A [(d, .inr (2, [.ref t, .int (nI n)])), (t, .inl (cC, 60, .inl tx)), (h, .inr (0, [.ref r])), (r, .inl (cI, 86, .inl f))] sz)) 0 0 (va_A [(d, .inr (2, [.ref t, .int (nI n)])), (t, .inl (cC, 60, .inl tx)), (h, .inr (0, [.ref r])), (r, .inl (cI, 86, .inl f))] sz) := by
  refine b_enterW (Qc := fun A => b_Qi D ((p_chb tx s1 t1 f).2) [(d, .inr (2, [.ref t, .int (nI n)])), (t, .inl (cC, 60, .inl tx)), (h, .inr (0, [.ref r])), (r, .inl (cI, 86, .inl ((p_chb tx s1 t1 f).1)))] A) (cc := cX2_changeBeams) (maxL := 8) (ret := (some .int)) (by decide) rfl (Nat.le_of_ble_eq_true rfl) ?_
  intro p e s m below meth c ls A hx hb hr hml hown hts hlocks hname hP hK hD hA hS hX hl Q hQ
  have hown : s.vm.findClass RX2 = some m.cls := hown
  have hl : lv_has ls 8 [(0, .ref d), (1, .ref h), (2, .int (nI s1)), (3, .int (nI t1))] := hl
  refine lv_aload_n (pc := 0) hx hb dX2_changeBeams_0 rfl (lv_at hl 0 rfl) ?_
  refine va_get (pc := 1) (D := D) (ci := 2) (v := .ref t) (C := RX2) (T := TX2) (N := 2) hx hb hts hi_X2_changeBeams_X2 hown hK hP 0 rfl rfl 0 (by decide) (hts _ hw_X2_changeBeams_0) (fun _ h9 => h9) rfl dX2_changeBeams_1 ?_
  refine lv_iload_n (pc := 4) hx hb dX2_changeBeams_4 rfl (lv_at hl 2 rfl) ?_
  refine b_cald (pc := 5) hx hb hK hP 1 1 rfl rfl s1 rfl (by omega) (by decide) dX2_changeBeams_5 ?_
  refine lv_bipush (pc := 6) (v := 48) hx hb dX2_changeBeams_6 (by decide) ?_
  refine lv_isub (pc := 8) hx hb dX2_changeBeams_8 ?_
  refine lv_istore (pc := 9) (lv' := [(4, .int ((tx s1) - 48)), (0, .ref d), (1, .ref h), (2, .int (nI s1)), (3, .int (nI t1))]) hx hb dX2_changeBeams_9 hl (by decide) rfl (fun ls hl => ?_)
  refine lv_iload (pc := 11) hx hb dX2_changeBeams_11 (lv_at hl 0 rfl) ?_
  refine b_cR (pc := 13) (va_runSN (As := [.int ((tx s1) - 48)]) (rest := []) ⟨hx, hb, hml, hown, hts⟩ (c_X3_isNoGate l D cI cC cZ cG ((tx s1) - 48)) ⟨va_cnB 1 hts gX2_changeBeams_X3_isNoGate_n51 rfl rfl rfl hX.2.2.2.2 (hts _ hw_X2_changeBeams_2) hyS_X3_isNoGate ⟨Nat.le_of_ble_eq_true rfl, Nat.le_of_ble_eq_true rfl⟩, (hts _ hw_X2_changeBeams_3), trivial⟩ (b_pRS (wc := []) hK hP [] rfl) rfl rfl hl.1 rfl (lv_room (Nat.le_of_ble_eq_true rfl)) dX2_changeBeams_13 ⟨Nat.zero_le _, Nat.zero_le _⟩) ?_
  refine lv_if_eq (pc := 16) (tgt := 21) hx hb dX2_changeBeams_16 (by decide) (fun c_1 => ?_) (fun c_1 => ?_)
  · skip
    have c_1 : ¬ (p_ng ((tx s1) - 48)) := b_i_0.mp c_1
    have hng := c_1
    obtain ⟨g, hg, eg⟩ := p_gate c_1
    have hl : lv_has ls 8 [(4, .int (nI g)), (0, .ref d), (1, .ref h), (2, .int (nI s1)), (3, .int (nI t1))] := by rw [eg] at hl; exact hl
    refine lv_iconst (pc := 21) (v := 0) hx hb dX2_changeBeams_21 (by decide) ?_
    refine lv_istore (pc := 22) (lv' := [(5, .int 0), (4, .int (nI g)), (0, .ref d), (1, .ref h), (2, .int (nI s1)), (3, .int (nI t1))]) hx hb dX2_changeBeams_22 hl (by decide) rfl (fun ls hl => ?_)
    refine lv_iload_n (pc := 24) hx hb dX2_changeBeams_24 rfl (lv_at hl 4 rfl) ?_
    refine lv_iconst (pc := 25) (v := 1) hx hb dX2_changeBeams_25 (by decide) ?_
    refine lv_iadd (pc := 26) hx hb dX2_changeBeams_26 ?_
    refine b_re (nI_add s1 1) ?_
    refine lv_istore (pc := 27) (lv' := [(6, .int (nI (s1 + 1))), (5, .int 0), (4, .int (nI g)), (0, .ref d), (1, .ref h), (2, .int (nI s1)), (3, .int (nI t1))]) hx hb dX2_changeBeams_27 hl (by decide) rfl (fun ls hl => ?_)
    have loop_29 : ∀ (fu : Nat) (i1 : Nat) (f1 : Nat → Int32) (e1 : Int32), (s1 + 1 ≤ i1) → (i1 ≤ t1) → (p_cb tx g (t1 - i1) i1 f1 e1 = p_cb tx g (t1 - (s1 + 1)) (s1 + 1) f 0) → t1 - i1 < fu → ∀ (H : Heap) (locs : List Loc), va_P D vwCl [(d, .inr (2, [.ref t, .int (nI n)])), (t, .inl (cC, 60, .inl tx)), (h, .inr (0, [.ref r])), (r, .inl (cI, 86, .inl f1))] H → va_D A [(d, .inr (2, [.ref t, .int (nI n)])), (t, .inl (cC, 60, .inl tx)), (h, .inr (0, [.ref r])), (r, .inl (cI, 86, .inl f1))] → va_S A s.heap H locs → ∀ (ls : Array Slot), lv_has ls 8 [(6, .int (nI i1)), (5, .int e1), (4, .int (nI g)), (0, .ref d), (1, .ref h), (2, .int (nI s1)), (3, .int (nI t1))] → W p l e ({ frames := 4, cells := 0, slots := 0, locals := 87 } : Room) s m ([.ref d, .ref h, .int (nI s1), .int (nI t1)] : List Value).toArray below meth c H locs 0 0 Q (F0 m 29 ls []) := by
      intro fu
      induction fu with
      | zero => intro i1 f1 e1 h1 h2 hv hn H locs hP hD hS ls hl; exact absurd hn (Nat.not_lt_zero _)
      | succ fu ih_29 =>
        intro i1 f1 e1 h1 h2 hv hn H locs hP hD hS ls hl
        refine lv_iload (pc := 29) hx hb dX2_changeBeams_29 (lv_at hl 0 rfl) ?_
        refine lv_iload_n (pc := 31) hx hb dX2_changeBeams_31 rfl (lv_at hl 6 rfl) ?_
        refine lv_icmp_ge (pc := 32) (tgt := 72) hx hb dX2_changeBeams_32 (by decide) (fun c_2 => ?_) (fun c_2 => ?_)
        · skip
          have c_2 : t1 ≤ i1 := (nI_leI (a := t1) (b := i1) (by omega) (by omega)).mp c_2
          refine lv_iload (pc := 72) hx hb dX2_changeBeams_72 (lv_at hl 1 rfl) ?_
          subst hQ
          exact b_retW hx hb hr hlocks hS (by have e9 : i1 = t1 := (by omega); have e8 : p_chb tx s1 t1 f = (f1, e1) := (by unfold p_chb; rw [if_neg hng, eg, nI_clamp (by omega), ← hv, e9, Nat.sub_self]; rfl); rw [e8]) (by have e9 : i1 = t1 := (by omega); have e8 : p_chb tx s1 t1 f = (f1, e1) := (by unfold p_chb; rw [if_neg hng, eg, nI_clamp (by omega), ← hv, e9, Nat.sub_self]; rfl); rw [e8]; exact hP) dX2_changeBeams_74
        · skip
          have c_2 : ¬ (t1 ≤ i1) := fun h9 => c_2 ((nI_leI (a := t1) (b := i1) (by omega) (by omega)).mpr h9)
          refine lv_aload_n (pc := 35) hx hb dX2_changeBeams_35 rfl (lv_at hl 3 rfl) ?_
          refine va_get (pc := 36) (D := D) (ci := 2) (v := .ref t) (C := RX2) (T := TX2) (N := 2) hx hb hts hi_X2_changeBeams_X2 hown hK hP 0 rfl rfl 0 (by decide) (hts _ hw_X2_changeBeams_0) (fun _ h9 => h9) rfl dX2_changeBeams_36 ?_
          refine lv_iload (pc := 39) hx hb dX2_changeBeams_39 (lv_at hl 0 rfl) ?_
          refine b_cald (pc := 41) hx hb hK hP 1 1 rfl rfl i1 rfl (by omega) (by decide) dX2_changeBeams_41 ?_
          refine b_cR (pc := 42) (va_runS (As := [.int (tx i1)]) (rest := []) ⟨hx, hb, hml, hown, hts⟩ (c_X2_beamOf l D cI cC cZ cG (tx i1)) (va_cwS 1 hts gX2_changeBeams_X2_beamOf rfl rfl rfl hyS_X2_beamOf ⟨Nat.le_of_ble_eq_true rfl, Nat.le_of_ble_eq_true rfl⟩) (b_pRS (wc := []) hK hP [] rfl) rfl rfl hl.1 rfl (lv_room (Nat.le_of_ble_eq_true rfl)) dX2_changeBeams_42 ⟨Nat.zero_le _, Nat.zero_le _⟩) ?_
          rcases p_beam_cases (tx i1) with hbm | hbm | hbm | hbm
          · skip
            refine b_re hbm ?_
            refine lv_istore (pc := 45) (lv' := [(7, .int 0), (6, .int (nI i1)), (5, .int e1), (4, .int (nI g)), (0, .ref d), (1, .ref h), (2, .int (nI s1)), (3, .int (nI t1))]) hx hb dX2_changeBeams_45 hl (by decide) rfl (fun ls hl => ?_)
            refine lv_iload (pc := 47) hx hb dX2_changeBeams_47 (lv_at hl 0 rfl) ?_
            refine lv_if_lt (pc := 49) (tgt := 66) hx hb dX2_changeBeams_49 (by decide) (fun c_3 => ?_) (fun c_3 => ?_)
            · skip
              exact absurd c_3 (by decide)
            · skip
              refine lv_aload_n (pc := 52) hx hb dX2_changeBeams_52 rfl (lv_at hl 5 rfl) ?_
              refine lv_iload (pc := 53) hx hb dX2_changeBeams_53 (lv_at hl 3 rfl) ?_
              refine lv_iload (pc := 55) hx hb dX2_changeBeams_55 (lv_at hl 0 rfl) ?_
              refine b_cW (pc := 57) (w1 := [(h, .inr (0, [.ref r])), (r, .inl (cI, 86, .inl (h_change f1 g 0)))]) (va_runV (As := [.int (nI g), .int 0]) (rest := []) ⟨hx, hb, hml, hown, hts⟩ (c_X0_change l D cI cC cZ cG tb lo hi H.size h r f1 g 0 (by omega) (by omega)) (cwV 2 hts gX2_changeBeams_X0_change rfl rfl rfl hy_X0_change ⟨Nat.le_of_ble_eq_true rfl, Nat.le_of_ble_eq_true rfl⟩) (b_pWV (wc := [(h, .inr (0, [.ref r])), (r, .inl (cI, 86, .inl f1))]) hK hP hD (b_Xok_X tb lo hi) [2, 3] rfl (by decide) rfl (b_Xc hX hD hS hA [2, 3] rfl) (ci := 0) (q0 := 0) rfl rfl) rfl rfl hl.1 rfl (lv_room (Nat.le_of_ble_eq_true rfl)) dX2_changeBeams_57 ⟨Nat.zero_le _, Nat.zero_le _⟩) hP hD hS hA [2, 3] rfl rfl (fun H locs hP hD hS => ?_)
              have hP : va_P D vwCl [(d, .inr (2, [.ref t, .int (nI n)])), (t, .inl (cC, 60, .inl tx)), (h, .inr (0, [.ref r])), (r, .inl (cI, 86, .inl (h_change f1 g 0)))] H := hP
              have hD : va_D A [(d, .inr (2, [.ref t, .int (nI n)])), (t, .inl (cC, 60, .inl tx)), (h, .inr (0, [.ref r])), (r, .inl (cI, 86, .inl (h_change f1 g 0)))] := hD
              refine lv_if_ne (pc := 60) (tgt := 66) hx hb dX2_changeBeams_60 (by decide) (fun c_4 => ?_) (fun c_4 => ?_)
              · skip
                have c_4 : ¬ ((f1 (8 + g * 13 + 0) ^^^ b_tb 0) = 0) := c_4
                refine lv_iinc (pc := 66) (v := nI (i1 + 1)) (lv' := [(6, .int (nI (i1 + 1))), (7, .int 0), (5, .int e1), (4, .int (nI g)), (0, .ref d), (1, .ref h), (2, .int (nI s1)), (3, .int (nI t1))]) hx hb dX2_changeBeams_66 hl (k := 1) rfl (nI_add i1 1) (by decide) rfl (fun ls hl => ?_)
                refine lv_goto (pc := 69) (tgt := 29) hx hb dX2_changeBeams_69 (by decide) ?_
                exact ih_29 (i1 + 1) (h_change f1 g 0) e1 (by omega) (by omega) (by rw [← hv, p_cb_b (by omega : i1 < t1) 0 hbm (by decide), if_neg c_4]) (by omega) _ _ (hP.sub [0, 1, 2, 3] rfl) (hD.sub [0, 1, 2, 3] (by decide) rfl) hS ls (lv_sub hl [0, 2, 3, 4, 5, 6, 7] rfl)
              · skip
                have c_4 : (f1 (8 + g * 13 + 0) ^^^ b_tb 0) = 0 := c_4
                refine lv_iinc (pc := 63) (v := e1 + 1) (lv' := [(5, .int (e1 + 1)), (7, .int 0), (6, .int (nI i1)), (4, .int (nI g)), (0, .ref d), (1, .ref h), (2, .int (nI s1)), (3, .int (nI t1))]) hx hb dX2_changeBeams_63 hl (k := 2) rfl rfl (by decide) rfl (fun ls hl => ?_)
                refine lv_iinc (pc := 66) (v := nI (i1 + 1)) (lv' := [(6, .int (nI (i1 + 1))), (5, .int (e1 + 1)), (7, .int 0), (4, .int (nI g)), (0, .ref d), (1, .ref h), (2, .int (nI s1)), (3, .int (nI t1))]) hx hb dX2_changeBeams_66 hl (k := 2) rfl (nI_add i1 1) (by decide) rfl (fun ls hl => ?_)
                refine lv_goto (pc := 69) (tgt := 29) hx hb dX2_changeBeams_69 (by decide) ?_
                exact ih_29 (i1 + 1) (h_change f1 g 0) (e1 + 1) (by omega) (by omega) (by rw [← hv, p_cb_b (by omega : i1 < t1) 0 hbm (by decide), if_pos c_4]) (by omega) _ _ (hP.sub [0, 1, 2, 3] rfl) (hD.sub [0, 1, 2, 3] (by decide) rfl) hS ls (lv_sub hl [0, 1, 3, 4, 5, 6, 7] rfl)
          · skip
            refine b_re hbm ?_
            refine lv_istore (pc := 45) (lv' := [(7, .int 1), (6, .int (nI i1)), (5, .int e1), (4, .int (nI g)), (0, .ref d), (1, .ref h), (2, .int (nI s1)), (3, .int (nI t1))]) hx hb dX2_changeBeams_45 hl (by decide) rfl (fun ls hl => ?_)
            refine lv_iload (pc := 47) hx hb dX2_changeBeams_47 (lv_at hl 0 rfl) ?_
            refine lv_if_lt (pc := 49) (tgt := 66) hx hb dX2_changeBeams_49 (by decide) (fun c_5 => ?_) (fun c_5 => ?_)
            · skip
              exact absurd c_5 (by decide)
            · skip
              refine lv_aload_n (pc := 52) hx hb dX2_changeBeams_52 rfl (lv_at hl 5 rfl) ?_
              refine lv_iload (pc := 53) hx hb dX2_changeBeams_53 (lv_at hl 3 rfl) ?_
              refine lv_iload (pc := 55) hx hb dX2_changeBeams_55 (lv_at hl 0 rfl) ?_
              refine b_cW (pc := 57) (w1 := [(h, .inr (0, [.ref r])), (r, .inl (cI, 86, .inl (h_change f1 g 1)))]) (va_runV (As := [.int (nI g), .int 1]) (rest := []) ⟨hx, hb, hml, hown, hts⟩ (c_X0_change l D cI cC cZ cG tb lo hi H.size h r f1 g 1 (by omega) (by omega)) (cwV 2 hts gX2_changeBeams_X0_change rfl rfl rfl hy_X0_change ⟨Nat.le_of_ble_eq_true rfl, Nat.le_of_ble_eq_true rfl⟩) (b_pWV (wc := [(h, .inr (0, [.ref r])), (r, .inl (cI, 86, .inl f1))]) hK hP hD (b_Xok_X tb lo hi) [2, 3] rfl (by decide) rfl (b_Xc hX hD hS hA [2, 3] rfl) (ci := 0) (q0 := 0) rfl rfl) rfl rfl hl.1 rfl (lv_room (Nat.le_of_ble_eq_true rfl)) dX2_changeBeams_57 ⟨Nat.zero_le _, Nat.zero_le _⟩) hP hD hS hA [2, 3] rfl rfl (fun H locs hP hD hS => ?_)
              have hP : va_P D vwCl [(d, .inr (2, [.ref t, .int (nI n)])), (t, .inl (cC, 60, .inl tx)), (h, .inr (0, [.ref r])), (r, .inl (cI, 86, .inl (h_change f1 g 1)))] H := hP
              have hD : va_D A [(d, .inr (2, [.ref t, .int (nI n)])), (t, .inl (cC, 60, .inl tx)), (h, .inr (0, [.ref r])), (r, .inl (cI, 86, .inl (h_change f1 g 1)))] := hD
              refine lv_if_ne (pc := 60) (tgt := 66) hx hb dX2_changeBeams_60 (by decide) (fun c_6 => ?_) (fun c_6 => ?_)
              · skip
                have c_6 : ¬ ((f1 (8 + g * 13 + 0) ^^^ b_tb 1) = 0) := c_6
                refine lv_iinc (pc := 66) (v := nI (i1 + 1)) (lv' := [(6, .int (nI (i1 + 1))), (7, .int 1), (5, .int e1), (4, .int (nI g)), (0, .ref d), (1, .ref h), (2, .int (nI s1)), (3, .int (nI t1))]) hx hb dX2_changeBeams_66 hl (k := 1) rfl (nI_add i1 1) (by decide) rfl (fun ls hl => ?_)
                refine lv_goto (pc := 69) (tgt := 29) hx hb dX2_changeBeams_69 (by decide) ?_
                exact ih_29 (i1 + 1) (h_change f1 g 1) e1 (by omega) (by omega) (by rw [← hv, p_cb_b (by omega : i1 < t1) 1 hbm (by decide), if_neg c_6]) (by omega) _ _ (hP.sub [0, 1, 2, 3] rfl) (hD.sub [0, 1, 2, 3] (by decide) rfl) hS ls (lv_sub hl [0, 2, 3, 4, 5, 6, 7] rfl)
              · skip
                have c_6 : (f1 (8 + g * 13 + 0) ^^^ b_tb 1) = 0 := c_6
                refine lv_iinc (pc := 63) (v := e1 + 1) (lv' := [(5, .int (e1 + 1)), (7, .int 1), (6, .int (nI i1)), (4, .int (nI g)), (0, .ref d), (1, .ref h), (2, .int (nI s1)), (3, .int (nI t1))]) hx hb dX2_changeBeams_63 hl (k := 2) rfl rfl (by decide) rfl (fun ls hl => ?_)
                refine lv_iinc (pc := 66) (v := nI (i1 + 1)) (lv' := [(6, .int (nI (i1 + 1))), (5, .int (e1 + 1)), (7, .int 1), (4, .int (nI g)), (0, .ref d), (1, .ref h), (2, .int (nI s1)), (3, .int (nI t1))]) hx hb dX2_changeBeams_66 hl (k := 2) rfl (nI_add i1 1) (by decide) rfl (fun ls hl => ?_)
                refine lv_goto (pc := 69) (tgt := 29) hx hb dX2_changeBeams_69 (by decide) ?_
                exact ih_29 (i1 + 1) (h_change f1 g 1) (e1 + 1) (by omega) (by omega) (by rw [← hv, p_cb_b (by omega : i1 < t1) 1 hbm (by decide), if_pos c_6]) (by omega) _ _ (hP.sub [0, 1, 2, 3] rfl) (hD.sub [0, 1, 2, 3] (by decide) rfl) hS ls (lv_sub hl [0, 1, 3, 4, 5, 6, 7] rfl)
          · skip
            refine b_re hbm ?_
            refine lv_istore (pc := 45) (lv' := [(7, .int 2), (6, .int (nI i1)), (5, .int e1), (4, .int (nI g)), (0, .ref d), (1, .ref h), (2, .int (nI s1)), (3, .int (nI t1))]) hx hb dX2_changeBeams_45 hl (by decide) rfl (fun ls hl => ?_)
            refine lv_iload (pc := 47) hx hb dX2_changeBeams_47 (lv_at hl 0 rfl) ?_
            refine lv_if_lt (pc := 49) (tgt := 66) hx hb dX2_changeBeams_49 (by decide) (fun c_7 => ?_) (fun c_7 => ?_)
            · skip
              exact absurd c_7 (by decide)
            · skip
              refine lv_aload_n (pc := 52) hx hb dX2_changeBeams_52 rfl (lv_at hl 5 rfl) ?_
              refine lv_iload (pc := 53) hx hb dX2_changeBeams_53 (lv_at hl 3 rfl) ?_
              refine lv_iload (pc := 55) hx hb dX2_changeBeams_55 (lv_at hl 0 rfl) ?_
              refine b_cW (pc := 57) (w1 := [(h, .inr (0, [.ref r])), (r, .inl (cI, 86, .inl (h_change f1 g 2)))]) (va_runV (As := [.int (nI g), .int 2]) (rest := []) ⟨hx, hb, hml, hown, hts⟩ (c_X0_change l D cI cC cZ cG tb lo hi H.size h r f1 g 2 (by omega) (by omega)) (cwV 2 hts gX2_changeBeams_X0_change rfl rfl rfl hy_X0_change ⟨Nat.le_of_ble_eq_true rfl, Nat.le_of_ble_eq_true rfl⟩) (b_pWV (wc := [(h, .inr (0, [.ref r])), (r, .inl (cI, 86, .inl f1))]) hK hP hD (b_Xok_X tb lo hi) [2, 3] rfl (by decide) rfl (b_Xc hX hD hS hA [2, 3] rfl) (ci := 0) (q0 := 0) rfl rfl) rfl rfl hl.1 rfl (lv_room (Nat.le_of_ble_eq_true rfl)) dX2_changeBeams_57 ⟨Nat.zero_le _, Nat.zero_le _⟩) hP hD hS hA [2, 3] rfl rfl (fun H locs hP hD hS => ?_)
              have hP : va_P D vwCl [(d, .inr (2, [.ref t, .int (nI n)])), (t, .inl (cC, 60, .inl tx)), (h, .inr (0, [.ref r])), (r, .inl (cI, 86, .inl (h_change f1 g 2)))] H := hP
              have hD : va_D A [(d, .inr (2, [.ref t, .int (nI n)])), (t, .inl (cC, 60, .inl tx)), (h, .inr (0, [.ref r])), (r, .inl (cI, 86, .inl (h_change f1 g 2)))] := hD
              refine lv_if_ne (pc := 60) (tgt := 66) hx hb dX2_changeBeams_60 (by decide) (fun c_8 => ?_) (fun c_8 => ?_)
              · skip
                have c_8 : ¬ ((f1 (8 + g * 13 + 0) ^^^ b_tb 2) = 0) := c_8
                refine lv_iinc (pc := 66) (v := nI (i1 + 1)) (lv' := [(6, .int (nI (i1 + 1))), (7, .int 2), (5, .int e1), (4, .int (nI g)), (0, .ref d), (1, .ref h), (2, .int (nI s1)), (3, .int (nI t1))]) hx hb dX2_changeBeams_66 hl (k := 1) rfl (nI_add i1 1) (by decide) rfl (fun ls hl => ?_)
                refine lv_goto (pc := 69) (tgt := 29) hx hb dX2_changeBeams_69 (by decide) ?_
                exact ih_29 (i1 + 1) (h_change f1 g 2) e1 (by omega) (by omega) (by rw [← hv, p_cb_b (by omega : i1 < t1) 2 hbm (by decide), if_neg c_8]) (by omega) _ _ (hP.sub [0, 1, 2, 3] rfl) (hD.sub [0, 1, 2, 3] (by decide) rfl) hS ls (lv_sub hl [0, 2, 3, 4, 5, 6, 7] rfl)
              · skip
                have c_8 : (f1 (8 + g * 13 + 0) ^^^ b_tb 2) = 0 := c_8
                refine lv_iinc (pc := 63) (v := e1 + 1) (lv' := [(5, .int (e1 + 1)), (7, .int 2), (6, .int (nI i1)), (4, .int (nI g)), (0, .ref d), (1, .ref h), (2, .int (nI s1)), (3, .int (nI t1))]) hx hb dX2_changeBeams_63 hl (k := 2) rfl rfl (by decide) rfl (fun ls hl => ?_)
                refine lv_iinc (pc := 66) (v := nI (i1 + 1)) (lv' := [(6, .int (nI (i1 + 1))), (5, .int (e1 + 1)), (7, .int 2), (4, .int (nI g)), (0, .ref d), (1, .ref h), (2, .int (nI s1)), (3, .int (nI t1))]) hx hb dX2_changeBeams_66 hl (k := 2) rfl (nI_add i1 1) (by decide) rfl (fun ls hl => ?_)
                refine lv_goto (pc := 69) (tgt := 29) hx hb dX2_changeBeams_69 (by decide) ?_
                exact ih_29 (i1 + 1) (h_change f1 g 2) (e1 + 1) (by omega) (by omega) (by rw [← hv, p_cb_b (by omega : i1 < t1) 2 hbm (by decide), if_pos c_8]) (by omega) _ _ (hP.sub [0, 1, 2, 3] rfl) (hD.sub [0, 1, 2, 3] (by decide) rfl) hS ls (lv_sub hl [0, 1, 3, 4, 5, 6, 7] rfl)
          · skip
            refine b_re hbm ?_
            refine lv_istore (pc := 45) (lv' := [(7, .int (-6)), (6, .int (nI i1)), (5, .int e1), (4, .int (nI g)), (0, .ref d), (1, .ref h), (2, .int (nI s1)), (3, .int (nI t1))]) hx hb dX2_changeBeams_45 hl (by decide) rfl (fun ls hl => ?_)
            refine lv_iload (pc := 47) hx hb dX2_changeBeams_47 (lv_at hl 0 rfl) ?_
            refine lv_if_lt (pc := 49) (tgt := 66) hx hb dX2_changeBeams_49 (by decide) (fun c_9 => ?_) (fun c_9 => ?_)
            · skip
              refine lv_iinc (pc := 66) (v := nI (i1 + 1)) (lv' := [(6, .int (nI (i1 + 1))), (7, .int (-6)), (5, .int e1), (4, .int (nI g)), (0, .ref d), (1, .ref h), (2, .int (nI s1)), (3, .int (nI t1))]) hx hb dX2_changeBeams_66 hl (k := 1) rfl (nI_add i1 1) (by decide) rfl (fun ls hl => ?_)
              refine lv_goto (pc := 69) (tgt := 29) hx hb dX2_changeBeams_69 (by decide) ?_
              exact ih_29 (i1 + 1) f1 e1 (by omega) (by omega) (by rw [← hv, p_cb_n (by omega : i1 < t1) hbm]) (by omega) _ _ (hP.sub [0, 1, 2, 3] rfl) (hD.sub [0, 1, 2, 3] (by decide) rfl) hS ls (lv_sub hl [0, 2, 3, 4, 5, 6, 7] rfl)
            · skip
              exact absurd c_9 (by decide)
    exact loop_29 (t1 - s1 + 1) (s1 + 1) f 0 (Nat.le_refl _) (by omega) rfl (by omega) _ _ (hP.sub [0, 1, 2, 3] rfl) (hD.sub [0, 1, 2, 3] (by decide) rfl) hS ls (lv_sub hl [0, 1, 2, 3, 4, 5, 6] rfl)
  · skip
    have c_1 : p_ng ((tx s1) - 48) := Classical.not_not.mp (fun h9 => c_1 (b_i_0.mpr h9))
    refine lv_iconst (pc := 19) (v := 0) hx hb dX2_changeBeams_19 (by decide) ?_
    subst hQ
    exact b_retW hx hb hr hlocks hS (by unfold p_chb; rw [if_pos c_1]) (by unfold p_chb; rw [if_pos c_1]; exact hP) dX2_changeBeams_20
theorem hw_X2_happenIn_0 : (.fieldLink RX2 15 "BeamTurnstiles$Pad" "length" "I" : Cond) ∈ wsX2_happenIn := by decide +kernel
theorem hi_X2_happenIn_X2 : ∀ w ∈ wsX20, w ∈ wsX2_happenIn := by decide +kernel
theorem hw_X2_happenIn_2 : (.fieldLink RX2 11 "BeamTurnstiles$Pad" "text" "[C" : Cond) ∈ wsX2_happenIn := by decide +kernel
set_option maxHeartbeats 4000000 in
set_option maxRecDepth 100000 in
theorem c_X2_happenIn (l : Launch) (D : va_G) (cI cC cZ cG : ClassId) (tb lo hi : Nat) (sz : Nat) (d : Nat) (t : Nat) (n : Nat) (tx : Nat → Int32) (h : Nat) (r : Nat) (f : Nat → Int32) (hn60 : n ≤ 60) : Met l yX2_happenIn wsX2_happenIn ({ frames := 5, cells := 0, slots := 0, locals := 114 } : Room) (b_W D (b_T cI cC cZ cG) (b_X tb lo hi) [(d, .inr (2, [.ref t, .int (nI n)])), (t, .inl (cC, 60, .inl tx)), (h, .inr (0, [.ref r])), (r, .inl (cI, 86, .inl f))] sz [.ref d, .ref h]) (b_Qi D ((p_hap tx n (n + 1) 0 0 f 0).2) [(d, .inr (2, [.ref t, .int (nI n)])), (t, .inl (cC, 60, .inl tx)), (h, .inr (0, [.ref r])), (r, .inl (cI, 86, .inl ((p_hap tx n (n + 1) 0 0 f 0).1)))] (va_A [(d, .inr (2, [.ref t, .int (nI n)])), (t, .inl (cC, 60, .inl tx)), (h, .inr (0, [.ref r])), (r, .inl (cI, 86, .inl f))] sz)) 0 0 (va_A [(d, .inr (2, [.ref t, .int (nI n)])), (t, .inl (cC, 60, .inl tx)), (h, .inr (0, [.ref r])), (r, .inl (cI, 86, .inl f))] sz) := by
  refine b_enterW (Qc := fun A => b_Qi D ((p_hap tx n (n + 1) 0 0 f 0).2) [(d, .inr (2, [.ref t, .int (nI n)])), (t, .inl (cC, 60, .inl tx)), (h, .inr (0, [.ref r])), (r, .inl (cI, 86, .inl ((p_hap tx n (n + 1) 0 0 f 0).1)))] A) (cc := cX2_happenIn) (maxL := 6) (ret := (some .int)) (by decide) rfl (Nat.le_of_ble_eq_true rfl) ?_
  intro p e s m below meth c ls A hx hb hr hml hown hts hlocks hname hP hK hD hA hS hX hl Q hQ
  have hown : s.vm.findClass RX2 = some m.cls := hown
  have hl : lv_has ls 6 [(0, .ref d), (1, .ref h)] := hl
  refine lv_iconst (pc := 0) (v := 0) hx hb dX2_happenIn_0 (by decide) ?_
  refine lv_istore_n (pc := 1) (lv' := [(2, .int 0), (0, .ref d), (1, .ref h)]) hx hb dX2_happenIn_1 rfl hl (by decide) rfl (fun ls hl => ?_)
  refine lv_iconst (pc := 2) (v := 0) hx hb dX2_happenIn_2 (by decide) ?_
  refine lv_istore_n (pc := 3) (lv' := [(3, .int 0), (2, .int 0), (0, .ref d), (1, .ref h)]) hx hb dX2_happenIn_3 rfl hl (by decide) rfl (fun ls hl => ?_)
  refine lv_iconst (pc := 4) (v := 0) hx hb dX2_happenIn_4 (by decide) ?_
  refine lv_istore (pc := 5) (lv' := [(4, .int 0), (3, .int 0), (2, .int 0), (0, .ref d), (1, .ref h)]) hx hb dX2_happenIn_5 hl (by decide) rfl (fun ls hl => ?_)
  have loop_7 : ∀ (fu : Nat) (a1 : Nat) (s1 : Nat) (f1 : Nat → Int32) (e1 : Int32), (a1 ≤ n + 1) → (s1 ≤ a1) → (p_hap tx n (n + 1 - a1) a1 s1 f1 e1 = p_hap tx n (n + 1) 0 0 f 0) → n + 1 - a1 < fu → ∀ (H : Heap) (locs : List Loc), va_P D vwCl [(d, .inr (2, [.ref t, .int (nI n)])), (t, .inl (cC, 60, .inl tx)), (h, .inr (0, [.ref r])), (r, .inl (cI, 86, .inl f1))] H → va_D A [(d, .inr (2, [.ref t, .int (nI n)])), (t, .inl (cC, 60, .inl tx)), (h, .inr (0, [.ref r])), (r, .inl (cI, 86, .inl f1))] → va_S A s.heap H locs → ∀ (ls : Array Slot), lv_has ls 6 [(4, .int (nI a1)), (3, .int (nI s1)), (2, .int e1), (0, .ref d), (1, .ref h)] → W p l e ({ frames := 5, cells := 0, slots := 0, locals := 114 } : Room) s m ([.ref d, .ref h] : List Value).toArray below meth c H locs 0 0 Q (F0 m 7 ls []) := by
    intro fu
    induction fu with
    | zero => intro a1 s1 f1 e1 h1 h2 hv hn H locs hP hD hS ls hl; exact absurd hn (Nat.not_lt_zero _)
    | succ fu ih_7 =>
      intro a1 s1 f1 e1 h1 h2 hv hn H locs hP hD hS ls hl
      refine lv_iload (pc := 7) hx hb dX2_happenIn_7 (lv_at hl 0 rfl) ?_
      refine lv_aload_n (pc := 9) hx hb dX2_happenIn_9 rfl (lv_at hl 3 rfl) ?_
      refine va_get (pc := 10) (D := D) (ci := 2) (v := .int (nI n)) (C := RX2) (T := TX2) (N := 2) hx hb hts hi_X2_happenIn_X2 hown hK hP 0 rfl rfl 1 (by decide) (hts _ hw_X2_happenIn_0) (fun _ h9 => h9) rfl dX2_happenIn_10 ?_
      refine lv_icmp_gt (pc := 13) (tgt := 104) hx hb dX2_happenIn_13 (by decide) (fun c_1 => ?_) (fun c_1 => ?_)
      · skip
        have c_1 : n < a1 := (nI_ltI (a := n) (b := a1) (by omega) (by omega)).mp c_1
        refine lv_iload_n (pc := 104) hx hb dX2_happenIn_104 rfl (lv_at hl 2 rfl) ?_
        subst hQ
        exact b_retW hx hb hr hlocks hS (by have e8 : p_hap tx n (n + 1) 0 0 f 0 = (f1, e1) := (by rw [← hv, show n + 1 - a1 = 0 by omega]; rfl); rw [e8]) (by have e8 : p_hap tx n (n + 1) 0 0 f 0 = (f1, e1) := (by rw [← hv, show n + 1 - a1 = 0 by omega]; rfl); rw [e8]; exact hP) dX2_happenIn_105
      · skip
        have c_1 : ¬ (n < a1) := fun h9 => c_1 ((nI_ltI (a := n) (b := a1) (by omega) (by omega)).mpr h9)
        refine lv_iload (pc := 16) hx hb dX2_happenIn_16 (lv_at hl 0 rfl) ?_
        refine lv_aload_n (pc := 18) hx hb dX2_happenIn_18 rfl (lv_at hl 3 rfl) ?_
        refine va_get (pc := 19) (D := D) (ci := 2) (v := .int (nI n)) (C := RX2) (T := TX2) (N := 2) hx hb hts hi_X2_happenIn_X2 hown hK hP 0 rfl rfl 1 (by decide) (hts _ hw_X2_happenIn_0) (fun _ h9 => h9) rfl dX2_happenIn_19 ?_
        refine lv_icmp_eq (pc := 22) (tgt := 37) hx hb dX2_happenIn_22 (by decide) (fun c_2 => ?_) (fun c_2 => ?_)
        · skip
          have c_2 : a1 = n := (nI_eq (a := a1) (b := n) (by omega) (by omega)).mp c_2
          refine lv_iconst (pc := 37) (v := 1) hx hb dX2_happenIn_37 (by decide) ?_
          refine lv_goto (pc := 38) (tgt := 42) hx hb dX2_happenIn_38 (by decide) ?_
          refine lv_istore (pc := 42) (lv' := [(5, .int 1), (4, .int (nI a1)), (3, .int (nI s1)), (2, .int e1), (0, .ref d), (1, .ref h)]) hx hb dX2_happenIn_42 hl (by decide) rfl (fun ls hl => ?_)
          refine lv_iload (pc := 44) hx hb dX2_happenIn_44 (lv_at hl 0 rfl) ?_
          refine lv_if_eq (pc := 46) (tgt := 98) hx hb dX2_happenIn_46 (by decide) (fun c_3 => ?_) (fun c_3 => ?_)
          · skip
            exact absurd c_3 (by decide)
          · skip
            refine lv_iload_n (pc := 49) hx hb dX2_happenIn_49 rfl (lv_at hl 2 rfl) ?_
            refine lv_iload (pc := 50) hx hb dX2_happenIn_50 (lv_at hl 1 rfl) ?_
            refine lv_icmp_ge (pc := 52) (tgt := 98) hx hb dX2_happenIn_52 (by decide) (fun c_4 => ?_) (fun c_4 => ?_)
            · skip
              have c_4 : a1 ≤ s1 := (nI_leI (a := a1) (b := s1) (by omega) (by omega)).mp c_4
              refine lv_iinc (pc := 98) (v := nI (a1 + 1)) (lv' := [(4, .int (nI (a1 + 1))), (5, .int 1), (3, .int (nI s1)), (2, .int e1), (0, .ref d), (1, .ref h)]) hx hb dX2_happenIn_98 hl (k := 1) rfl (nI_add a1 1) (by decide) rfl (fun ls hl => ?_)
              refine lv_goto (pc := 101) (tgt := 7) hx hb dX2_happenIn_101 (by decide) ?_
              exact ih_7 (a1 + 1) s1 f1 e1 (by omega) (by omega) (by rw [← hv, p_hap_s (by omega : a1 ≤ n), if_neg (fun h9 => absurd h9.2 (by omega))]) (by omega) _ _ (hP.sub [0, 1, 2, 3] rfl) (hD.sub [0, 1, 2, 3] (by decide) rfl) hS ls (lv_sub hl [0, 2, 3, 4, 5] rfl)
            · skip
              have c_4 : ¬ (a1 ≤ s1) := fun h9 => c_4 ((nI_leI (a := a1) (b := s1) (by omega) (by omega)).mpr h9)
              refine lv_aload_n (pc := 55) hx hb dX2_happenIn_55 rfl (lv_at hl 4 rfl) ?_
              refine va_get (pc := 56) (D := D) (ci := 2) (v := .ref t) (C := RX2) (T := TX2) (N := 2) hx hb hts hi_X2_happenIn_X2 hown hK hP 0 rfl rfl 0 (by decide) (hts _ hw_X2_happenIn_2) (fun _ h9 => h9) rfl dX2_happenIn_56 ?_
              refine lv_iload_n (pc := 59) hx hb dX2_happenIn_59 rfl (lv_at hl 2 rfl) ?_
              refine b_cald (pc := 60) hx hb hK hP 1 1 rfl rfl s1 rfl (by omega) (by decide) dX2_happenIn_60 ?_
              refine lv_bipush (pc := 61) (v := 46) hx hb dX2_happenIn_61 (by decide) ?_
              refine lv_icmp_ne (pc := 63) (tgt := 82) hx hb dX2_happenIn_63 (by decide) (fun c_5 => ?_) (fun c_5 => ?_)
              · skip
                have c_5 : ¬ ((tx s1) = 46) := c_5
                refine lv_iload_n (pc := 82) hx hb dX2_happenIn_82 rfl (lv_at hl 3 rfl) ?_
                refine lv_aload_n (pc := 83) hx hb dX2_happenIn_83 rfl (lv_at hl 4 rfl) ?_
                refine lv_aload_n (pc := 84) hx hb dX2_happenIn_84 rfl (lv_at hl 5 rfl) ?_
                refine lv_iload_n (pc := 85) hx hb dX2_happenIn_85 rfl (lv_at hl 2 rfl) ?_
                refine lv_iload (pc := 86) hx hb dX2_happenIn_86 (lv_at hl 1 rfl) ?_
                refine b_cW (pc := 88) (w1 := [(d, .inr (2, [.ref t, .int (nI n)])), (t, .inl (cC, 60, .inl tx)), (h, .inr (0, [.ref r])), (r, .inl (cI, 86, .inl ((p_chb tx s1 a1 f1).1)))]) (va_runV (As := [.ref h, .int (nI s1), .int (nI a1)]) (rest := [.int e1]) ⟨hx, hb, hml, hown, hts⟩ (c_X2_changeBeams l D cI cC cZ cG tb lo hi H.size d t n tx h r f1 s1 a1 (by omega) (by omega)) (cwV 3 hts gX2_happenIn_X2_changeBeams rfl rfl rfl hy_X2_changeBeams ⟨Nat.le_of_ble_eq_true rfl, Nat.le_of_ble_eq_true rfl⟩) (b_pWV (wc := [(d, .inr (2, [.ref t, .int (nI n)])), (t, .inl (cC, 60, .inl tx)), (h, .inr (0, [.ref r])), (r, .inl (cI, 86, .inl f1))]) hK hP hD (b_Xok_X tb lo hi) [0, 1, 2, 3] rfl (by decide) rfl (b_Xc hX hD hS hA [0, 1, 2, 3] rfl) (ci := 2) (q0 := 0) rfl rfl) rfl rfl hl.1 rfl (lv_room (Nat.le_of_ble_eq_true rfl)) dX2_happenIn_88 ⟨Nat.zero_le _, Nat.zero_le _⟩) hP hD hS hA [0, 1, 2, 3] rfl rfl (fun H locs hP hD hS => ?_)
                have hP : va_P D vwCl [(d, .inr (2, [.ref t, .int (nI n)])), (t, .inl (cC, 60, .inl tx)), (h, .inr (0, [.ref r])), (r, .inl (cI, 86, .inl ((p_chb tx s1 a1 f1).1)))] H := hP
                have hD : va_D A [(d, .inr (2, [.ref t, .int (nI n)])), (t, .inl (cC, 60, .inl tx)), (h, .inr (0, [.ref r])), (r, .inl (cI, 86, .inl ((p_chb tx s1 a1 f1).1)))] := hD
                obtain ⟨f_6, ef_6⟩ : ∃ z : Nat → Int32, z = (p_chb tx s1 a1 f1).1 := ⟨_, rfl⟩
                have hP : va_P D vwCl [(d, .inr (2, [.ref t, .int (nI n)])), (t, .inl (cC, 60, .inl tx)), (h, .inr (0, [.ref r])), (r, .inl (cI, 86, .inl f_6))] H := by rw [ef_6]; exact hP
                have hD : va_D A [(d, .inr (2, [.ref t, .int (nI n)])), (t, .inl (cC, 60, .inl tx)), (h, .inr (0, [.ref r])), (r, .inl (cI, 86, .inl f_6))] := by rw [ef_6]; exact hD
                refine lv_iadd (pc := 91) hx hb dX2_happenIn_91 ?_
                refine lv_istore_n (pc := 92) (lv' := [(2, .int (e1 + ((p_chb tx s1 a1 f1).2))), (5, .int 1), (4, .int (nI a1)), (3, .int (nI s1)), (0, .ref d), (1, .ref h)]) hx hb dX2_happenIn_92 rfl hl (by decide) rfl (fun ls hl => ?_)
                refine lv_iload (pc := 93) hx hb dX2_happenIn_93 (lv_at hl 2 rfl) ?_
                refine lv_iconst (pc := 95) (v := 1) hx hb dX2_happenIn_95 (by decide) ?_
                refine lv_iadd (pc := 96) hx hb dX2_happenIn_96 ?_
                refine b_re (nI_add a1 1) ?_
                refine lv_istore_n (pc := 97) (lv' := [(3, .int (nI (a1 + 1))), (2, .int (e1 + ((p_chb tx s1 a1 f1).2))), (5, .int 1), (4, .int (nI a1)), (0, .ref d), (1, .ref h)]) hx hb dX2_happenIn_97 rfl hl (by decide) rfl (fun ls hl => ?_)
                refine lv_iinc (pc := 98) (v := nI (a1 + 1)) (lv' := [(4, .int (nI (a1 + 1))), (3, .int (nI (a1 + 1))), (2, .int (e1 + ((p_chb tx s1 a1 f1).2))), (5, .int 1), (0, .ref d), (1, .ref h)]) hx hb dX2_happenIn_98 hl (k := 3) rfl (nI_add a1 1) (by decide) rfl (fun ls hl => ?_)
                refine lv_goto (pc := 101) (tgt := 7) hx hb dX2_happenIn_101 (by decide) ?_
                subst ef_6
                exact ih_7 (a1 + 1) (a1 + 1) ((p_chb tx s1 a1 f1).1) (e1 + ((p_chb tx s1 a1 f1).2)) (by omega) (by omega) (by rw [← hv, p_hap_s (by omega : a1 ≤ n), if_pos ⟨Or.inl c_2, (by omega : s1 < a1)⟩, if_neg c_5]) (by omega) _ _ (hP.sub [0, 1, 2, 3] rfl) (hD.sub [0, 1, 2, 3] (by decide) rfl) hS ls (lv_sub hl [0, 1, 2, 4, 5] rfl)
              · skip
                have c_5 : (tx s1) = 46 := c_5
                refine lv_aload_n (pc := 66) hx hb dX2_happenIn_66 rfl (lv_at hl 5 rfl) ?_
                refine lv_aload_n (pc := 67) hx hb dX2_happenIn_67 rfl (lv_at hl 4 rfl) ?_
                refine lv_iload_n (pc := 68) hx hb dX2_happenIn_68 rfl (lv_at hl 2 rfl) ?_
                refine lv_iconst (pc := 69) (v := 1) hx hb dX2_happenIn_69 (by decide) ?_
                refine lv_iadd (pc := 70) hx hb dX2_happenIn_70 ?_
                refine b_re (nI_add s1 1) ?_
                refine lv_iload (pc := 71) hx hb dX2_happenIn_71 (lv_at hl 1 rfl) ?_
                refine b_cR (pc := 73) (va_runV (As := [.int (nI (s1 + 1)), .int (nI a1)]) (rest := [.ref h]) ⟨hx, hb, hml, hown, hts⟩ (c_X2_numberIn l D cI cC cZ cG d t n tx (s1 + 1) a1 (by omega) (by omega)) (cwV 2 hts gX2_happenIn_X2_numberIn rfl rfl rfl hy_X2_numberIn ⟨Nat.le_of_ble_eq_true rfl, Nat.le_of_ble_eq_true rfl⟩) (b_pRV (wc := [(d, .inr (2, [.ref t, .int (nI n)])), (t, .inl (cC, 60, .inl tx))]) hK hP [0, 1] rfl (ci := 2) (q0 := 0) rfl rfl) rfl rfl hl.1 rfl (lv_room (Nat.le_of_ble_eq_true rfl)) dX2_happenIn_73 ⟨Nat.zero_le _, Nat.zero_le _⟩) ?_
                refine b_cV (pc := 76) (w1 := [(h, .inr (0, [.ref r])), (r, .inl (cI, 86, .inl (h_let f1 (p_ni tx (a1 - (s1 + 1)) (s1 + 1) 0))))]) (va_runS (As := [.ref h, .int (p_ni tx (a1 - (s1 + 1)) (s1 + 1) 0)]) (rest := []) ⟨hx, hb, hml, hown, hts⟩ (c_X2_letGoBy l D cI cC cZ cG tb lo hi H.size h r f1 (p_ni tx (a1 - (s1 + 1)) (s1 + 1) 0)) (va_cwS 2 hts gX2_happenIn_X2_letGoBy rfl rfl rfl hyS_X2_letGoBy ⟨Nat.le_of_ble_eq_true rfl, Nat.le_of_ble_eq_true rfl⟩) (b_pWS (wc := [(h, .inr (0, [.ref r])), (r, .inl (cI, 86, .inl f1))]) hK hP hD (b_Xok_X tb lo hi) [2, 3] rfl (by decide) rfl (b_Xc hX hD hS hA [2, 3] rfl)) rfl rfl hl.1 rfl (lv_room (Nat.le_of_ble_eq_true rfl)) dX2_happenIn_76 ⟨Nat.zero_le _, Nat.zero_le _⟩) hP hD hS hA [2, 3] rfl rfl (fun H locs hP hD hS => ?_)
                have hP : va_P D vwCl [(d, .inr (2, [.ref t, .int (nI n)])), (t, .inl (cC, 60, .inl tx)), (h, .inr (0, [.ref r])), (r, .inl (cI, 86, .inl (h_let f1 (p_ni tx (a1 - (s1 + 1)) (s1 + 1) 0))))] H := hP
                have hD : va_D A [(d, .inr (2, [.ref t, .int (nI n)])), (t, .inl (cC, 60, .inl tx)), (h, .inr (0, [.ref r])), (r, .inl (cI, 86, .inl (h_let f1 (p_ni tx (a1 - (s1 + 1)) (s1 + 1) 0))))] := hD
                refine lv_goto (pc := 79) (tgt := 93) hx hb dX2_happenIn_79 (by decide) ?_
                refine lv_iload (pc := 93) hx hb dX2_happenIn_93 (lv_at hl 1 rfl) ?_
                refine lv_iconst (pc := 95) (v := 1) hx hb dX2_happenIn_95 (by decide) ?_
                refine lv_iadd (pc := 96) hx hb dX2_happenIn_96 ?_
                refine b_re (nI_add a1 1) ?_
                refine lv_istore_n (pc := 97) (lv' := [(3, .int (nI (a1 + 1))), (5, .int 1), (4, .int (nI a1)), (2, .int e1), (0, .ref d), (1, .ref h)]) hx hb dX2_happenIn_97 rfl hl (by decide) rfl (fun ls hl => ?_)
                refine lv_iinc (pc := 98) (v := nI (a1 + 1)) (lv' := [(4, .int (nI (a1 + 1))), (3, .int (nI (a1 + 1))), (5, .int 1), (2, .int e1), (0, .ref d), (1, .ref h)]) hx hb dX2_happenIn_98 hl (k := 2) rfl (nI_add a1 1) (by decide) rfl (fun ls hl => ?_)
                refine lv_goto (pc := 101) (tgt := 7) hx hb dX2_happenIn_101 (by decide) ?_
                exact ih_7 (a1 + 1) (a1 + 1) (h_let f1 (p_ni tx (a1 - (s1 + 1)) (s1 + 1) 0)) e1 (by omega) (by omega) (by rw [← hv, p_hap_s (by omega : a1 ≤ n), if_pos ⟨Or.inl c_2, (by omega : s1 < a1)⟩, if_pos c_5]) (by omega) _ _ (hP.sub [0, 1, 2, 3] rfl) (hD.sub [0, 1, 2, 3] (by decide) rfl) hS ls (lv_sub hl [0, 1, 3, 4, 5] rfl)
        · skip
          have c_2 : ¬ (a1 = n) := fun h9 => c_2 ((nI_eq (a := a1) (b := n) (by omega) (by omega)).mpr h9)
          refine lv_aload_n (pc := 25) hx hb dX2_happenIn_25 rfl (lv_at hl 3 rfl) ?_
          refine va_get (pc := 26) (D := D) (ci := 2) (v := .ref t) (C := RX2) (T := TX2) (N := 2) hx hb hts hi_X2_happenIn_X2 hown hK hP 0 rfl rfl 0 (by decide) (hts _ hw_X2_happenIn_2) (fun _ h9 => h9) rfl dX2_happenIn_26 ?_
          refine lv_iload (pc := 29) hx hb dX2_happenIn_29 (lv_at hl 0 rfl) ?_
          refine b_cald (pc := 31) hx hb hK hP 1 1 rfl rfl a1 rfl (by omega) (by decide) dX2_happenIn_31 ?_
          refine lv_bipush (pc := 32) (v := 59) hx hb dX2_happenIn_32 (by decide) ?_
          refine lv_icmp_ne (pc := 34) (tgt := 41) hx hb dX2_happenIn_34 (by decide) (fun c_7 => ?_) (fun c_7 => ?_)
          · skip
            have c_7 : ¬ ((tx a1) = 59) := c_7
            refine lv_iconst (pc := 41) (v := 0) hx hb dX2_happenIn_41 (by decide) ?_
            refine lv_istore (pc := 42) (lv' := [(5, .int 0), (4, .int (nI a1)), (3, .int (nI s1)), (2, .int e1), (0, .ref d), (1, .ref h)]) hx hb dX2_happenIn_42 hl (by decide) rfl (fun ls hl => ?_)
            refine lv_iload (pc := 44) hx hb dX2_happenIn_44 (lv_at hl 0 rfl) ?_
            refine lv_if_eq (pc := 46) (tgt := 98) hx hb dX2_happenIn_46 (by decide) (fun c_8 => ?_) (fun c_8 => ?_)
            · skip
              refine lv_iinc (pc := 98) (v := nI (a1 + 1)) (lv' := [(4, .int (nI (a1 + 1))), (5, .int 0), (3, .int (nI s1)), (2, .int e1), (0, .ref d), (1, .ref h)]) hx hb dX2_happenIn_98 hl (k := 1) rfl (nI_add a1 1) (by decide) rfl (fun ls hl => ?_)
              refine lv_goto (pc := 101) (tgt := 7) hx hb dX2_happenIn_101 (by decide) ?_
              exact ih_7 (a1 + 1) s1 f1 e1 (by omega) (by omega) (by rw [← hv, p_hap_s (by omega : a1 ≤ n), if_neg (fun h9 => h9.1.elim (fun q => absurd q c_2) (fun q => absurd q c_7))]) (by omega) _ _ (hP.sub [0, 1, 2, 3] rfl) (hD.sub [0, 1, 2, 3] (by decide) rfl) hS ls (lv_sub hl [0, 2, 3, 4, 5] rfl)
            · skip
              exact absurd c_8 (by decide)
          · skip
            have c_7 : (tx a1) = 59 := c_7
            refine lv_iconst (pc := 37) (v := 1) hx hb dX2_happenIn_37 (by decide) ?_
            refine lv_goto (pc := 38) (tgt := 42) hx hb dX2_happenIn_38 (by decide) ?_
            refine lv_istore (pc := 42) (lv' := [(5, .int 1), (4, .int (nI a1)), (3, .int (nI s1)), (2, .int e1), (0, .ref d), (1, .ref h)]) hx hb dX2_happenIn_42 hl (by decide) rfl (fun ls hl => ?_)
            refine lv_iload (pc := 44) hx hb dX2_happenIn_44 (lv_at hl 0 rfl) ?_
            refine lv_if_eq (pc := 46) (tgt := 98) hx hb dX2_happenIn_46 (by decide) (fun c_9 => ?_) (fun c_9 => ?_)
            · skip
              exact absurd c_9 (by decide)
            · skip
              refine lv_iload_n (pc := 49) hx hb dX2_happenIn_49 rfl (lv_at hl 2 rfl) ?_
              refine lv_iload (pc := 50) hx hb dX2_happenIn_50 (lv_at hl 1 rfl) ?_
              refine lv_icmp_ge (pc := 52) (tgt := 98) hx hb dX2_happenIn_52 (by decide) (fun c_10 => ?_) (fun c_10 => ?_)
              · skip
                have c_10 : a1 ≤ s1 := (nI_leI (a := a1) (b := s1) (by omega) (by omega)).mp c_10
                refine lv_iinc (pc := 98) (v := nI (a1 + 1)) (lv' := [(4, .int (nI (a1 + 1))), (5, .int 1), (3, .int (nI s1)), (2, .int e1), (0, .ref d), (1, .ref h)]) hx hb dX2_happenIn_98 hl (k := 1) rfl (nI_add a1 1) (by decide) rfl (fun ls hl => ?_)
                refine lv_goto (pc := 101) (tgt := 7) hx hb dX2_happenIn_101 (by decide) ?_
                exact ih_7 (a1 + 1) s1 f1 e1 (by omega) (by omega) (by rw [← hv, p_hap_s (by omega : a1 ≤ n), if_neg (fun h9 => absurd h9.2 (by omega))]) (by omega) _ _ (hP.sub [0, 1, 2, 3] rfl) (hD.sub [0, 1, 2, 3] (by decide) rfl) hS ls (lv_sub hl [0, 2, 3, 4, 5] rfl)
              · skip
                have c_10 : ¬ (a1 ≤ s1) := fun h9 => c_10 ((nI_leI (a := a1) (b := s1) (by omega) (by omega)).mpr h9)
                refine lv_aload_n (pc := 55) hx hb dX2_happenIn_55 rfl (lv_at hl 4 rfl) ?_
                refine va_get (pc := 56) (D := D) (ci := 2) (v := .ref t) (C := RX2) (T := TX2) (N := 2) hx hb hts hi_X2_happenIn_X2 hown hK hP 0 rfl rfl 0 (by decide) (hts _ hw_X2_happenIn_2) (fun _ h9 => h9) rfl dX2_happenIn_56 ?_
                refine lv_iload_n (pc := 59) hx hb dX2_happenIn_59 rfl (lv_at hl 2 rfl) ?_
                refine b_cald (pc := 60) hx hb hK hP 1 1 rfl rfl s1 rfl (by omega) (by decide) dX2_happenIn_60 ?_
                refine lv_bipush (pc := 61) (v := 46) hx hb dX2_happenIn_61 (by decide) ?_
                refine lv_icmp_ne (pc := 63) (tgt := 82) hx hb dX2_happenIn_63 (by decide) (fun c_11 => ?_) (fun c_11 => ?_)
                · skip
                  have c_11 : ¬ ((tx s1) = 46) := c_11
                  refine lv_iload_n (pc := 82) hx hb dX2_happenIn_82 rfl (lv_at hl 3 rfl) ?_
                  refine lv_aload_n (pc := 83) hx hb dX2_happenIn_83 rfl (lv_at hl 4 rfl) ?_
                  refine lv_aload_n (pc := 84) hx hb dX2_happenIn_84 rfl (lv_at hl 5 rfl) ?_
                  refine lv_iload_n (pc := 85) hx hb dX2_happenIn_85 rfl (lv_at hl 2 rfl) ?_
                  refine lv_iload (pc := 86) hx hb dX2_happenIn_86 (lv_at hl 1 rfl) ?_
                  refine b_cW (pc := 88) (w1 := [(d, .inr (2, [.ref t, .int (nI n)])), (t, .inl (cC, 60, .inl tx)), (h, .inr (0, [.ref r])), (r, .inl (cI, 86, .inl ((p_chb tx s1 a1 f1).1)))]) (va_runV (As := [.ref h, .int (nI s1), .int (nI a1)]) (rest := [.int e1]) ⟨hx, hb, hml, hown, hts⟩ (c_X2_changeBeams l D cI cC cZ cG tb lo hi H.size d t n tx h r f1 s1 a1 (by omega) (by omega)) (cwV 3 hts gX2_happenIn_X2_changeBeams rfl rfl rfl hy_X2_changeBeams ⟨Nat.le_of_ble_eq_true rfl, Nat.le_of_ble_eq_true rfl⟩) (b_pWV (wc := [(d, .inr (2, [.ref t, .int (nI n)])), (t, .inl (cC, 60, .inl tx)), (h, .inr (0, [.ref r])), (r, .inl (cI, 86, .inl f1))]) hK hP hD (b_Xok_X tb lo hi) [0, 1, 2, 3] rfl (by decide) rfl (b_Xc hX hD hS hA [0, 1, 2, 3] rfl) (ci := 2) (q0 := 0) rfl rfl) rfl rfl hl.1 rfl (lv_room (Nat.le_of_ble_eq_true rfl)) dX2_happenIn_88 ⟨Nat.zero_le _, Nat.zero_le _⟩) hP hD hS hA [0, 1, 2, 3] rfl rfl (fun H locs hP hD hS => ?_)
                  have hP : va_P D vwCl [(d, .inr (2, [.ref t, .int (nI n)])), (t, .inl (cC, 60, .inl tx)), (h, .inr (0, [.ref r])), (r, .inl (cI, 86, .inl ((p_chb tx s1 a1 f1).1)))] H := hP
                  have hD : va_D A [(d, .inr (2, [.ref t, .int (nI n)])), (t, .inl (cC, 60, .inl tx)), (h, .inr (0, [.ref r])), (r, .inl (cI, 86, .inl ((p_chb tx s1 a1 f1).1)))] := hD
                  obtain ⟨f_12, ef_12⟩ : ∃ z : Nat → Int32, z = (p_chb tx s1 a1 f1).1 := ⟨_, rfl⟩
                  have hP : va_P D vwCl [(d, .inr (2, [.ref t, .int (nI n)])), (t, .inl (cC, 60, .inl tx)), (h, .inr (0, [.ref r])), (r, .inl (cI, 86, .inl f_12))] H := by rw [ef_12]; exact hP
                  have hD : va_D A [(d, .inr (2, [.ref t, .int (nI n)])), (t, .inl (cC, 60, .inl tx)), (h, .inr (0, [.ref r])), (r, .inl (cI, 86, .inl f_12))] := by rw [ef_12]; exact hD
                  refine lv_iadd (pc := 91) hx hb dX2_happenIn_91 ?_
                  refine lv_istore_n (pc := 92) (lv' := [(2, .int (e1 + ((p_chb tx s1 a1 f1).2))), (5, .int 1), (4, .int (nI a1)), (3, .int (nI s1)), (0, .ref d), (1, .ref h)]) hx hb dX2_happenIn_92 rfl hl (by decide) rfl (fun ls hl => ?_)
                  refine lv_iload (pc := 93) hx hb dX2_happenIn_93 (lv_at hl 2 rfl) ?_
                  refine lv_iconst (pc := 95) (v := 1) hx hb dX2_happenIn_95 (by decide) ?_
                  refine lv_iadd (pc := 96) hx hb dX2_happenIn_96 ?_
                  refine b_re (nI_add a1 1) ?_
                  refine lv_istore_n (pc := 97) (lv' := [(3, .int (nI (a1 + 1))), (2, .int (e1 + ((p_chb tx s1 a1 f1).2))), (5, .int 1), (4, .int (nI a1)), (0, .ref d), (1, .ref h)]) hx hb dX2_happenIn_97 rfl hl (by decide) rfl (fun ls hl => ?_)
                  refine lv_iinc (pc := 98) (v := nI (a1 + 1)) (lv' := [(4, .int (nI (a1 + 1))), (3, .int (nI (a1 + 1))), (2, .int (e1 + ((p_chb tx s1 a1 f1).2))), (5, .int 1), (0, .ref d), (1, .ref h)]) hx hb dX2_happenIn_98 hl (k := 3) rfl (nI_add a1 1) (by decide) rfl (fun ls hl => ?_)
                  refine lv_goto (pc := 101) (tgt := 7) hx hb dX2_happenIn_101 (by decide) ?_
                  subst ef_12
                  exact ih_7 (a1 + 1) (a1 + 1) ((p_chb tx s1 a1 f1).1) (e1 + ((p_chb tx s1 a1 f1).2)) (by omega) (by omega) (by rw [← hv, p_hap_s (by omega : a1 ≤ n), if_pos ⟨Or.inr c_7, (by omega : s1 < a1)⟩, if_neg c_11]) (by omega) _ _ (hP.sub [0, 1, 2, 3] rfl) (hD.sub [0, 1, 2, 3] (by decide) rfl) hS ls (lv_sub hl [0, 1, 2, 4, 5] rfl)
                · skip
                  have c_11 : (tx s1) = 46 := c_11
                  refine lv_aload_n (pc := 66) hx hb dX2_happenIn_66 rfl (lv_at hl 5 rfl) ?_
                  refine lv_aload_n (pc := 67) hx hb dX2_happenIn_67 rfl (lv_at hl 4 rfl) ?_
                  refine lv_iload_n (pc := 68) hx hb dX2_happenIn_68 rfl (lv_at hl 2 rfl) ?_
                  refine lv_iconst (pc := 69) (v := 1) hx hb dX2_happenIn_69 (by decide) ?_
                  refine lv_iadd (pc := 70) hx hb dX2_happenIn_70 ?_
                  refine b_re (nI_add s1 1) ?_
                  refine lv_iload (pc := 71) hx hb dX2_happenIn_71 (lv_at hl 1 rfl) ?_
                  refine b_cR (pc := 73) (va_runV (As := [.int (nI (s1 + 1)), .int (nI a1)]) (rest := [.ref h]) ⟨hx, hb, hml, hown, hts⟩ (c_X2_numberIn l D cI cC cZ cG d t n tx (s1 + 1) a1 (by omega) (by omega)) (cwV 2 hts gX2_happenIn_X2_numberIn rfl rfl rfl hy_X2_numberIn ⟨Nat.le_of_ble_eq_true rfl, Nat.le_of_ble_eq_true rfl⟩) (b_pRV (wc := [(d, .inr (2, [.ref t, .int (nI n)])), (t, .inl (cC, 60, .inl tx))]) hK hP [0, 1] rfl (ci := 2) (q0 := 0) rfl rfl) rfl rfl hl.1 rfl (lv_room (Nat.le_of_ble_eq_true rfl)) dX2_happenIn_73 ⟨Nat.zero_le _, Nat.zero_le _⟩) ?_
                  refine b_cV (pc := 76) (w1 := [(h, .inr (0, [.ref r])), (r, .inl (cI, 86, .inl (h_let f1 (p_ni tx (a1 - (s1 + 1)) (s1 + 1) 0))))]) (va_runS (As := [.ref h, .int (p_ni tx (a1 - (s1 + 1)) (s1 + 1) 0)]) (rest := []) ⟨hx, hb, hml, hown, hts⟩ (c_X2_letGoBy l D cI cC cZ cG tb lo hi H.size h r f1 (p_ni tx (a1 - (s1 + 1)) (s1 + 1) 0)) (va_cwS 2 hts gX2_happenIn_X2_letGoBy rfl rfl rfl hyS_X2_letGoBy ⟨Nat.le_of_ble_eq_true rfl, Nat.le_of_ble_eq_true rfl⟩) (b_pWS (wc := [(h, .inr (0, [.ref r])), (r, .inl (cI, 86, .inl f1))]) hK hP hD (b_Xok_X tb lo hi) [2, 3] rfl (by decide) rfl (b_Xc hX hD hS hA [2, 3] rfl)) rfl rfl hl.1 rfl (lv_room (Nat.le_of_ble_eq_true rfl)) dX2_happenIn_76 ⟨Nat.zero_le _, Nat.zero_le _⟩) hP hD hS hA [2, 3] rfl rfl (fun H locs hP hD hS => ?_)
                  have hP : va_P D vwCl [(d, .inr (2, [.ref t, .int (nI n)])), (t, .inl (cC, 60, .inl tx)), (h, .inr (0, [.ref r])), (r, .inl (cI, 86, .inl (h_let f1 (p_ni tx (a1 - (s1 + 1)) (s1 + 1) 0))))] H := hP
                  have hD : va_D A [(d, .inr (2, [.ref t, .int (nI n)])), (t, .inl (cC, 60, .inl tx)), (h, .inr (0, [.ref r])), (r, .inl (cI, 86, .inl (h_let f1 (p_ni tx (a1 - (s1 + 1)) (s1 + 1) 0))))] := hD
                  refine lv_goto (pc := 79) (tgt := 93) hx hb dX2_happenIn_79 (by decide) ?_
                  refine lv_iload (pc := 93) hx hb dX2_happenIn_93 (lv_at hl 1 rfl) ?_
                  refine lv_iconst (pc := 95) (v := 1) hx hb dX2_happenIn_95 (by decide) ?_
                  refine lv_iadd (pc := 96) hx hb dX2_happenIn_96 ?_
                  refine b_re (nI_add a1 1) ?_
                  refine lv_istore_n (pc := 97) (lv' := [(3, .int (nI (a1 + 1))), (5, .int 1), (4, .int (nI a1)), (2, .int e1), (0, .ref d), (1, .ref h)]) hx hb dX2_happenIn_97 rfl hl (by decide) rfl (fun ls hl => ?_)
                  refine lv_iinc (pc := 98) (v := nI (a1 + 1)) (lv' := [(4, .int (nI (a1 + 1))), (3, .int (nI (a1 + 1))), (5, .int 1), (2, .int e1), (0, .ref d), (1, .ref h)]) hx hb dX2_happenIn_98 hl (k := 2) rfl (nI_add a1 1) (by decide) rfl (fun ls hl => ?_)
                  refine lv_goto (pc := 101) (tgt := 7) hx hb dX2_happenIn_101 (by decide) ?_
                  exact ih_7 (a1 + 1) (a1 + 1) (h_let f1 (p_ni tx (a1 - (s1 + 1)) (s1 + 1) 0)) e1 (by omega) (by omega) (by rw [← hv, p_hap_s (by omega : a1 ≤ n), if_pos ⟨Or.inr c_7, (by omega : s1 < a1)⟩, if_pos c_11]) (by omega) _ _ (hP.sub [0, 1, 2, 3] rfl) (hD.sub [0, 1, 2, 3] (by decide) rfl) hS ls (lv_sub hl [0, 1, 3, 4, 5] rfl)
  exact loop_7 (n + 2) 0 0 f 0 (Nat.zero_le _) (Nat.le_refl _) rfl (by omega) _ _ (hP.sub [0, 1, 2, 3] rfl) (hD.sub [0, 1, 2, 3] (by decide) rfl) hS ls (lv_sub hl [0, 1, 2, 3, 4] rfl)
