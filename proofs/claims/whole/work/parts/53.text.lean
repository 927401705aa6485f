/-! the text: the class's automaton and the reference's reading tell the same -/
theorem tz_in {x lo hi : Int32} : m_in x.toInt64 lo.toInt64 hi.toInt64 ↔ ((¬ x < lo) ∧ ¬ hi < x) := m_inI rfl rfl
theorem tz_eq {x c : Int32} : m_in x.toInt64 c.toInt64 c.toInt64 ↔ x = c := by
  rw [tz_in, i_lt, i_lt, i_eq]
  omega
theorem tz_gd {x : Int32} : m_in x.toInt64 (48 : Int32).toInt64 (53 : Int32).toInt64 ↔ p_gd x := by
  rw [tz_in]
  unfold p_gd
  rw [i_lt, i_lt, i_le]
  have e3 : (53 : Int32).toInt = 53 := by decide
  have e4 : (54 : Int32).toInt = 54 := by decide
  omega
theorem tz_nz {x : Int32} : m_in x.toInt64 (49 : Int32).toInt64 (57 : Int32).toInt64 ↔ (p_dg x ∧ ¬ x = 48) := by
  rw [tz_in]
  unfold p_dg
  rw [i_lt, i_lt, i_lt, i_eq]
  have e3 : (48 : Int32).toInt = 48 := by decide
  have e4 : (49 : Int32).toInt = 49 := by decide
  omega
theorem tz_has {tx : Nat → Int32} {n s : Nat} (h : s < n) (lo hi : Int32) : m_has tx n s lo hi ↔ m_in (tx s).toInt64 lo.toInt64 hi.toInt64 := ⟨fun q => q.2, fun q => ⟨h, q⟩⟩
theorem tz_no {tx : Nat → Int32} {n : Nat} (lo hi : Int32) : ¬ m_has tx n n lo hi := fun q => absurd q.1 (Nat.lt_irrefl _)
theorem tz_bm {tx : Nat → Int32} {n s : Nat} (h : s < n) : m_bm tx n s = p_beam (tx s) := by
  unfold m_bm p_beam
  have e1 : ∀ c : Int32, m_has tx n s c c ↔ tx s = c := fun c => (tz_has h c c).trans tz_eq
  by_cases h1 : tx s = 111
  · rw [if_pos ((e1 111).mpr h1), if_pos h1]
  · rw [if_neg (fun q => h1 ((e1 111).mp q)), if_neg h1]
    by_cases h2 : tx s = 105
    · rw [if_pos ((e1 105).mpr h2), if_pos h2]
    · rw [if_neg (fun q => h2 ((e1 105).mp q)), if_neg h2]
      by_cases h3 : tx s = 98
      · rw [if_pos ((e1 98).mpr h3), if_pos h3]
      · rw [if_neg (fun q => h3 ((e1 98).mp q)), if_neg h3]
theorem tz_neg (c : Int32) : p_beam c < 0 ↔ p_beam c = -6 := by
  rcases p_beam_cases c with h | h | h | h <;> rw [h] <;> decide
theorem tz_59 {c : Int32} (h : c = 59) : p_beam c = -6 := by
  rw [h]
  decide
/-- the letters of a gate's event, then its end -/
theorem tz_run {tx : Nat → Int32} {n : Nat} : ∀ d a, n - a = d → a ≤ n → p_ff tx n (n - a) a 2 = if m_has tx n (m_run tx n (n - a) a) 59 59 then p_ff tx n (n - (m_run tx n (n - a) a + 1)) (m_run tx n (n - a) a + 1) 0 else if m_run tx n (n - a) a = n then -6 else nI (m_run tx n (n - a) a)
  | 0, a, hd, ha => by
    have e : a = n := by omega
    subst e
    rw [Nat.sub_self]
    have e2 : m_run tx a 0 a = a := rfl
    rw [e2, if_neg (tz_no _ _), if_pos rfl]
    rfl
  | d + 1, a, hd, ha => by
    have hlt : a < n := by omega
    rw [p_ff_s hlt, m_run_b ha, tz_bm hlt]
    have e1 : p_sa 2 (tx a) = if p_beam (tx a) < 0 then p_ae (tx a) else 2 := rfl
    rw [e1]
    by_cases c : p_beam (tx a) = -6
    · rw [if_pos ((tz_neg _).mpr c), if_pos c]
      unfold p_ae
      by_cases c2 : tx a = 59
      · rw [if_pos c2, if_neg (by decide), if_pos ((tz_has hlt 59 59).mpr (tz_eq.mpr c2))]
      · rw [if_neg c2, if_pos rfl, if_neg (fun q => c2 (tz_eq.mp ((tz_has hlt 59 59).mp q))), if_neg (by omega)]
    · rw [if_neg (fun q => c ((tz_neg _).mp q)), if_neg c, if_neg (by decide)]
      exact tz_run d (a + 1) (by omega) (by omega)
/-- behind a number's last digit -/
theorem tz_ae {tx : Nat → Int32} {n e : Nat} (he : e ≤ n) {q : Nat} (hq : q = 4 ∨ q = 5) (hs : e < n → p_sa q (tx e) = p_ae (tx e)) : p_ff tx n (n - e) e q = if m_has tx n e 59 59 then p_ff tx n (n - (e + 1)) (e + 1) 0 else if e = n then -6 else nI e := by
  rcases Nat.lt_or_ge e n with c | c
  · rw [p_ff_s c, hs c]
    unfold p_ae
    by_cases c2 : tx e = 59
    · rw [if_pos c2, if_neg (by decide), if_pos ((tz_has c 59 59).mpr (tz_eq.mpr c2))]
    · rw [if_neg c2, if_pos rfl, if_neg (fun z => c2 (tz_eq.mp ((tz_has c 59 59).mp z))), if_neg (by omega)]
  · have e1 : e = n := by omega
    subst e1
    rw [Nat.sub_self, if_neg (tz_no _ _), if_pos rfl]
    rcases hq with h | h <;> subst h <;> rfl
abbrev tz_T (tx : Nat → Int32) (n : Nat) (r : Bool × Nat × Int32) : Int32 := if r.1 = true then (if m_has tx n r.2.1 59 59 then p_ff tx n (n - (r.2.1 + 1)) (r.2.1 + 1) 0 else if r.2.1 = n then -6 else nI r.2.1) else nI r.2.1
theorem tz_T_f {tx : Nat → Int32} {n e : Nat} {x : Int32} : tz_T tx n (false, e, x) = nI e := if_neg Bool.false_ne_true
theorem tz_T_t {tx : Nat → Int32} {n e : Nat} {x : Int32} : tz_T tx n (true, e, x) = if m_has tx n e 59 59 then p_ff tx n (n - (e + 1)) (e + 1) 0 else if e = n then -6 else nI e := if_pos rfl
theorem tz_step {tx : Nat → Int32} {n s : Nat} (nu : Int32) (hs : s ≤ n) : p_ff tx n (n - s) s 0 = tz_T tx n (m_re tx n s nu) := by
  rcases Nat.lt_or_ge s n with c | c
  case inr =>
    have e : s = n := by omega
    subst e
    rw [Nat.sub_self]
    unfold m_re
    rw [if_neg (tz_no _ _), if_neg (tz_no _ _), tz_T_f]
    rfl
  rw [p_ff_s c]
  have e0 : p_sa 0 (tx s) = if tx s = 46 then 3 else if p_gd (tx s) then 1 else 6 := rfl
  rw [e0]
  unfold m_re
  by_cases c46 : tx s = 46
  · rw [if_pos c46, if_neg (by decide), if_pos ((tz_has c 46 46).mpr (tz_eq.mpr c46))]
    rcases Nat.lt_or_ge (s + 1) n with c1 | c1
    case inr =>
      have e : s + 1 = n := by omega
      subst e
      rw [Nat.sub_self, if_neg (tz_no _ _), tz_T_f]
      rfl
    rw [p_ff_s c1]
    have e3 : p_sa 3 (tx (s + 1)) = if p_dg (tx (s + 1)) then (if tx (s + 1) = 48 then 6 else 4) else 6 := rfl
    rw [e3]
    by_cases d1 : p_dg (tx (s + 1)) ∧ ¬ tx (s + 1) = 48
    case neg =>
      rw [if_neg (fun q => d1 (tz_nz.mp ((tz_has c1 49 57).mp q))), tz_T_f]
      by_cases d2 : p_dg (tx (s + 1))
      · rw [if_pos d2, if_pos (Classical.not_not.mp (fun z => d1 ⟨d2, z⟩)), if_pos rfl]
      · rw [if_neg d2, if_pos rfl]
    rw [if_pos d1.1, if_neg d1.2, if_neg (by decide), if_pos ((tz_has c1 49 57).mpr (tz_nz.mpr d1))]
    by_cases d3 : m_has tx n (s + 1 + 1) 48 57
    · rw [if_pos d3, tz_T_t]
      have c2 := d3.1
      have hd := tz_in.mp d3.2
      rw [p_ff_s c2]
      have e4 : p_sa 4 (tx (s + 1 + 1)) = if p_dg (tx (s + 1 + 1)) then 5 else p_ae (tx (s + 1 + 1)) := rfl
      rw [e4, if_pos hd, if_neg (by decide)]
      exact tz_ae (e := s + 1 + 1 + 1) (by omega) (Or.inr rfl) (fun _ => rfl)
    · rw [if_neg d3, tz_T_t]
      refine tz_ae (e := s + 1 + 1) (by omega) (Or.inl rfl) (fun c2 => ?_)
      have e4 : p_sa 4 (tx (s + 1 + 1)) = if p_dg (tx (s + 1 + 1)) then 5 else p_ae (tx (s + 1 + 1)) := rfl
      rw [e4, if_neg (fun z : p_dg (tx (s + 1 + 1)) => d3 ⟨c2, tz_in.mpr z⟩)]
  · rw [if_neg c46, if_neg (fun q => c46 (tz_eq.mp ((tz_has c 46 46).mp q)))]
    by_cases cg : p_gd (tx s)
    case neg =>
      rw [if_neg cg, if_pos rfl, if_neg (fun q => cg (tz_gd.mp ((tz_has c 48 53).mp q))), tz_T_f]
    rw [if_pos cg, if_neg (by decide), if_pos ((tz_has c 48 53).mpr (tz_gd.mpr cg))]
    rcases Nat.lt_or_ge (s + 1) n with c1 | c1
    case inr =>
      have e : s + 1 = n := by omega
      subst e
      rw [Nat.sub_self, if_pos m_bm_end, m_bs_n m_bm_end, tz_T_f]
      rfl
    rw [p_ff_s c1]
    have e1 : p_sa 1 (tx (s + 1)) = if p_beam (tx (s + 1)) < 0 then 6 else 2 := rfl
    rw [e1]
    by_cases cb : p_beam (tx (s + 1)) = -6
    · have cm : m_bm tx n (s + 1) = (-6) := (tz_bm c1).trans cb
      rw [if_pos ((tz_neg _).mpr cb), if_pos rfl, if_pos cm, m_bs_n cm, tz_T_f]
    · have cm : ¬ m_bm tx n (s + 1) = (-6) := fun z => cb ((tz_bm c1).symm.trans z)
      obtain ⟨bm, -, -, es, -⟩ := m_bm_ne cm
      rw [if_neg (fun q => cb ((tz_neg _).mp q)), if_neg (by decide), if_neg cm, tz_T_t, es]
      exact tz_run _ (s + 1 + 1) rfl (by omega)
theorem tz_ff {tx : Nat → Int32} {n : Nat} : ∀ (m s k : Nat) (nu : Int32), n - s < m → s ≤ n → n + 1 - s ≤ k → (m_ftl tx n k s nu).1 = p_ff tx n (n - s) s 0
  | 0, _, _, _, h, _, _ => absurd h (Nat.not_lt_zero _)
  | m + 1, s, k, nu, h, hs, hk => by
    obtain ⟨k2, ek⟩ : ∃ z, k = z + 1 := ⟨k - 1, by omega⟩
    rw [ek, m_ftl, tz_step nu hs]
    unfold tz_T
    have hle := m_re_le (tx := tx) (nu := nu) hs
    by_cases c : (m_re tx n s nu).1 = true
    · rw [if_pos c, if_pos c]
      by_cases c2 : m_has tx n (m_re tx n s nu).2.1 59 59
      · rw [if_pos c2, if_pos c2]
        have h9 := c2.1
        exact tz_ff m _ k2 _ (by omega) (by omega) (by omega)
      · rw [if_neg c2, if_neg c2]
    · rw [if_neg c, if_neg c]
/-- promise 17, and the first test of read() and ifRead() -/
theorem tz_fault {tx : Nat → Int32} {n : Nat} (nu : Int32) : (m_ftl tx n (n + 1) 0 nu).1 = p_ff tx n n 0 0 := tz_ff (n + 1) 0 (n + 1) nu (by omega) (by omega) (by omega)
/-! what the events do -/
theorem e_now {N : Nat} {f a : Nat → Int32} {x : Int32} (hR : Row N f a) (h1 : (f 3).toInt ≤ x.toInt) (h2 : x.toInt ≤ 99999) : Row N (upd f 3 x) (upd a 3 x) := by
  obtain ⟨⟨⟨e0, e1, e2, e3, e4, e5, e6, e7⟩, hs, ht, hp⟩, hG⟩ := hR
  refine ⟨⟨⟨?_, ?_, ?_, ?_, ?_, ?_, ?_, ?_⟩, ?_, ?_, ?_⟩, fun g hg => ?_⟩
  · rw [pk_un (by omega), pk_un (by omega)]; exact e0
  · rw [pk_un (by omega), pk_un (by omega)]; exact e1
  · rw [pk_un (by omega), pk_un (by omega)]; exact e2
  · rw [pk_us, pk_us]
  · rw [pk_un (by omega), pk_un (by omega)]; exact e4
  · rw [pk_un (by omega), pk_un (by omega)]; exact e5
  · rw [pk_un (by omega), pk_un (by omega)]; exact e6
  · rw [pk_un (by omega), pk_un (by omega)]; exact e7
  · rw [pk_un (by omega)]; exact hs
  · rw [pk_us]; omega
  · rw [pk_un (by omega)]; exact hp
  · obtain ⟨hL, hC, hU⟩ := hG g hg
    refine ⟨?_, ?_, ?_⟩
    · simp (disch := omega) only [pk_un]; exact hL
    · unfold CR at hC ⊢
      simp (disch := omega) only [pk_un]
      exact hC
    · unfold UR at hU ⊢
      simp (disch := omega) only [pk_un, pk_us]
      rcases hU with h | ⟨u0, u1, u2, u3, u4, u6⟩
      · exact Or.inl h
      · exact Or.inr ⟨u0, u1, u2, u3, ⟨u4.1, by omega⟩, u6⟩
theorem e_tick {N : Nat} {f a : Nat → Int32} {t : Int32} (hR : Row N f a) (h0 : 0 ≤ t.toInt) (h1 : t.toInt ≤ 1000) : Row N (h_let f t) (m_tick a t) := by
  have e3 : a 3 = f 3 := hR.1.1.2.2.2.1
  have ht := hR.1.2.2.1
  have es : (f 3 + t).toInt = (f 3).toInt + t.toInt := i_add (by omega) (by omega)
  unfold h_let m_tick h_goBy
  by_cases c : (99999 : Int32) < f 3 + t
  · have c2 : ¬ a 3 + t ≤ 99999 := by
      rw [e3, i_le]
      rw [i_lt] at c
      omega
    rw [if_neg (fun z => z c), if_neg c2, Int32.add_zero]
    refine hR.cong (fun _ _ => rfl) (fun k _ => ?_)
    by_cases z : k = 3
    · rw [z]; exact pk_us
    · exact pk_un z
  · have c2 : a 3 + t ≤ 99999 := by
      rw [e3, i_le]
      rw [i_lt] at c
      omega
    rw [if_pos c, if_pos c2, e3]
    rw [i_lt, i_big] at c
    exact e_now hR (by omega) (by omega)
theorem tz_scan {tx : Nat → Int32} {n s : Nat} {f : Nat → Int32} {x : Int32} : ∀ d i, i + d ≤ n → (∀ j, i ≤ j → j < i + d → ¬ tx j = 59) → p_hap tx n (n + 1 - i) i s f x = p_hap tx n (n + 1 - (i + d)) (i + d) s f x
  | 0, i, _, _ => rfl
  | d + 1, i, h, hj => by
    rw [p_hap_s (by omega : i ≤ n), if_neg (fun q => q.1.elim (fun z => by omega) (fun z => hj i (by omega) (by omega) z))]
    have := tz_scan (tx := tx) (n := n) (s := s) (f := f) (x := x) d (i + 1) (by omega) (fun j h1 h2 => hj j (by omega) (by omega))
    rw [this, show i + 1 + d = i + (d + 1) by omega]
/-- an event's end in the class -/
theorem tz_event {tx : Nat → Int32} {n s e : Nat} {f : Nat → Int32} {x : Int32} (hse : s < e) (hen : e ≤ n) (hj : ∀ j, s ≤ j → j < e → ¬ tx j = 59) (he : e = n ∨ tx e = 59) : p_hap tx n (n + 1 - s) s s f x = if tx s = 46 then p_hap tx n (n + 1 - (e + 1)) (e + 1) (e + 1) (h_let f (p_ni tx (e - (s + 1)) (s + 1) 0)) x else p_hap tx n (n + 1 - (e + 1)) (e + 1) (e + 1) (p_chb tx s e f).1 (x + (p_chb tx s e f).2) := by
  have h1 := tz_scan (tx := tx) (n := n) (s := s) (f := f) (x := x) (e - s) s (by omega) (fun j h1 h2 => hj j h1 (by omega))
  rw [h1, show s + (e - s) = e by omega, p_hap_s hen, if_pos ⟨he, hse⟩]
theorem tz_letters {tx : Nat → Int32} {n g : Nat} (hg : g < 6) : ∀ d i, n - i = d → i ≤ n → ∀ (f a : Nat → Int32) (x y : Int32) (N : Nat), Row N f a → N + (n - i) ≤ 1000000 →
    (i ≤ m_run tx n (n - i) i ∧ m_run tx n (n - i) i ≤ n) ∧ (∀ j, i ≤ j → j < m_run tx n (n - i) i → ¬ tx j = 59) ∧
    y + (p_cb tx g (m_run tx n (n - i) i - i) i f x).2 = (m_ev tx n g (n - i) i a (y + x)).2.1 ∧ Row (N + (m_run tx n (n - i) i - i)) (p_cb tx g (m_run tx n (n - i) i - i) i f x).1 (m_ev tx n g (n - i) i a (y + x)).1
  | 0, i, hd, hi, f, a, x, y, N, hR, hN => by
    have e : i = n := by omega
    subst e
    rw [Nat.sub_self]
    have e2 : m_run tx i 0 i = i := rfl
    rw [e2, Nat.sub_self]
    exact ⟨⟨Nat.le_refl _, Nat.le_refl _⟩, fun j h1 h2 => absurd h2 (by omega), rfl, hR⟩
  | d + 1, i, hd, hi, f, a, x, y, N, hR, hN => by
    have hlt : i < n := by omega
    rw [m_run_b hi]
    by_cases c : m_bm tx n i = (-6)
    · rw [if_pos c, m_ev_s hi, if_pos c, Nat.sub_self]
      exact ⟨⟨Nat.le_refl _, hi⟩, fun j h1 h2 => absurd h2 (by omega), rfl, hR⟩
    · rw [if_neg c]
      obtain ⟨bm, hb3, eb, -, -⟩ := m_bm_ne c
      have eb2 : p_beam (tx i) = nI bm := (tz_bm hlt).symm.trans eb
      obtain ⟨hR2, -, hn⟩ := e_event hg hb3 (by omega) hR
      have ih := tz_letters hg (tx := tx) (n := n) d (i + 1) (by omega) (by omega) (h_change f g bm) (m_hap a g bm) (if f (8 + g * 13 + 0) ^^^ b_tb bm = 0 then x + 1 else x) y (N + 1) hR2 (by omega)
      obtain ⟨⟨h1, h2⟩, h3, h4, h5⟩ := ih
      have ec : y + (if f (8 + g * 13 + 0) ^^^ b_tb bm = 0 then x + 1 else x) = y + x + m_hapn a g bm := by
        rw [hn]
        split
        · rw [Int32.add_assoc]
        · rw [Int32.add_zero]
      rw [p_cb_b (by omega : i < m_run tx n (n - (i + 1)) (i + 1)) bm eb2 hb3, m_ev_b hi c eb hb3, ← ec]
      refine ⟨⟨by omega, h2⟩, fun j hj1 hj2 => ?_, h4, h5.mono (by omega)⟩
      by_cases z : j = i
      · rw [z]
        intro z2
        have := tz_59 z2
        exact c ((tz_bm hlt).trans this)
      · exact h3 j (by omega) hj2
theorem tz_dig {x : Int32} {d : Nat} (hd : d ≤ 9) (h : m_in x.toInt64 (nI (48 + d)).toInt64 (57 : Int32).toInt64) : ∃ j : Nat, d ≤ j ∧ j ≤ 9 ∧ x = nI (48 + j) := by
  have q := tz_in.mp h
  have q1 : nI (48 + d) ≤ x := Int32.not_lt.mp q.1
  have q2 : x ≤ 57 := Int32.not_lt.mp q.2
  rw [i_le] at q1 q2
  rw [nI_toInt (by omega)] at q1
  have e2 : (57 : Int32).toInt = 57 := by decide
  have h0 : ¬ x < 0 := fun z => by
    rw [i_lt, i_0] at z
    omega
  obtain ⟨j, hj, e⟩ := nI_of h0
  rw [e, nI_toInt hj] at q1 q2
  refine ⟨j - 48, by omega, by omega, ?_⟩
  rw [e, show 48 + (j - 48) = j by omega]
/-- the events of a text without a fault, from the beginning of one of them -/
theorem tz_rd {tx : Nat → Int32} {n : Nat} (h60 : n ≤ 60) : ∀ (m s k : Nat) (nu : Int32), n - s < m → s ≤ n → n + 1 - s ≤ k → (m_ftl tx n k s nu).1 = -6 → ∀ (f a : Nat → Int32) (x : Int32) (N : Nat), Row N f a → N + (n - s) ≤ 1000000 →
    (p_hap tx n (n + 1 - s) s s f x).2 = (m_rd tx n k s nu a x).2.1 ∧ Row (N + (n - s)) (p_hap tx n (n + 1 - s) s s f x).1 (m_rd tx n k s nu a x).1
  | 0, _, _, _, h, _, _, _, _, _, _, _, _, _ => absurd h (Nat.not_lt_zero _)
  | m + 1, s, k, nu, h, hs, hk, hft, f, a, x, N, hR, hN => by
    obtain ⟨k2, ek⟩ : ∃ z, k = z + 1 := ⟨k - 1, by omega⟩
    subst ek
    have hok := m_ft_ok h60 hs hft
    have hle := m_re_le (tx := tx) (nu := nu) hs
    -- behind the event: the end, or the next one
    have go : ∀ (e : Nat) (nu2 : Int32) (f2 a2 : Nat → Int32) (x2 : Int32) (M : Nat), s < e → e ≤ n → Row M f2 a2 → M ≤ N + (e - s) → m_has tx n e 59 59 → (m_ftl tx n k2 (e + 1) nu2).1 = -6 →
        (p_hap tx n (n + 1 - (e + 1)) (e + 1) (e + 1) f2 x2).2 = (m_rd tx n k2 (e + 1) nu2 a2 x2).2.1 ∧ Row (N + (n - s)) (p_hap tx n (n + 1 - (e + 1)) (e + 1) (e + 1) f2 x2).1 (m_rd tx n k2 (e + 1) nu2 a2 x2).1 := by
      intro e nu2 f2 a2 x2 M h1 h2 hR2 hM h59 hft2
      have h9 := h59.1
      have ih := tz_rd h60 m (e + 1) k2 nu2 (by omega) (by omega) (by omega) hft2 f2 a2 x2 M hR2 (by omega)
      exact ⟨ih.1, ih.2.mono (by omega)⟩
    have fin : ∀ (f2 : Nat → Int32) (x2 : Int32), p_hap tx n (n + 1 - (n + 1)) (n + 1) (n + 1) f2 x2 = (f2, x2) := by
      intro f2 x2
      rw [Nat.sub_self]
      rfl
    rw [m_rd]
    by_cases c46 : m_has tx n s 46 46
    · rw [if_pos c46]
      have c := c46.1
      have e46 := tz_eq.mp c46.2
      -- the number
      have hre : ∃ (e : Nat) (t : Int32), m_re tx n s nu = (true, e, t) ∧ s < e ∧ e ≤ n ∧ (∀ j, s ≤ j → j < e → ¬ tx j = 59) ∧ p_ni tx (e - (s + 1)) (s + 1) 0 = t ∧ 0 ≤ t.toInt ∧ t.toInt ≤ 1000 := by
        have hok1 := hok.1
        unfold m_re at hok1 ⊢
        rw [if_pos c46] at hok1 ⊢
        by_cases d1 : m_has tx n (s + 1) 49 57
        case neg =>
          rw [if_neg d1] at hok1
          exact absurd hok1 Bool.false_ne_true
        rw [if_pos d1]
        obtain ⟨j1, hj1, hj2, ej⟩ := tz_dig (d := 1) (by omega) d1.2
        have h1 := d1.1
        have n59 : ∀ j : Nat, j ≤ 9 → ¬ nI (48 + j) = 59 := fun j hj z => absurd ((nI_eq (a := 48 + j) (b := 59) (by omega) (by omega)).mp z) (by omega)
        have s1 : (tx (s + 1) - 48) = nI j1 := by
          rw [ej]
          exact (pk_sub (a := 48 + j1) (b := 48) (by omega)).trans (by rw [Nat.add_sub_cancel_left])
        have n46 : ¬ tx s = 59 := by rw [e46]; decide
        by_cases d2 : m_has tx n (s + 1 + 1) 48 57
        · rw [if_pos d2]
          obtain ⟨j2, hj3, hj4, ej2⟩ := tz_dig (d := 0) (by omega) d2.2
          have h2 := d2.1
          have s2 : 10 * (tx (s + 1) - 48) + tx (s + 1 + 1) - 48 = nI (10 * j1 + j2) := by
            rw [s1, ej2]
            have e1 : (10 : Int32) * nI j1 = nI (10 * j1) := pk_mul 10 j1
            rw [e1, nI_add]
            exact (pk_sub (a := 10 * j1 + (48 + j2)) (b := 48) (by omega)).trans (by rw [show 10 * j1 + (48 + j2) - 48 = 10 * j1 + j2 by omega])
          refine ⟨s + 1 + 1 + 1, _, rfl, by omega, by omega, fun j h3 h4 => ?_, ?_, ?_, ?_⟩
          · rcases (show j = s ∨ j = s + 1 ∨ j = s + 1 + 1 by omega) with z | z | z
            · rw [z]; exact n46
            · rw [z, ej]; exact n59 _ hj2
            · rw [z, ej2]; exact n59 _ hj4
          · rw [show s + 1 + 1 + 1 - (s + 1) = 2 by omega]
            show (0 * 10 + tx (s + 1) - 48) * 10 + tx (s + 1 + 1) - 48 = _
            rw [Int32.zero_mul, Int32.zero_add, Int32.mul_comm]
          · rw [s2, nI_toInt (by omega)]; omega
          · rw [s2, nI_toInt (by omega)]; omega
        · rw [if_neg d2]
          refine ⟨s + 1 + 1, _, rfl, by omega, by omega, fun j h3 h4 => ?_, ?_, ?_, ?_⟩
          · rcases (show j = s ∨ j = s + 1 by omega) with z | z
            · rw [z]; exact n46
            · rw [z, ej]; exact n59 _ hj2
          · rw [show s + 1 + 1 - (s + 1) = 1 by omega]
            show 0 * 10 + tx (s + 1) - 48 = _
            rw [Int32.zero_mul, Int32.zero_add]
          · rw [s1, nI_toInt (by omega)]; omega
          · rw [s1, nI_toInt (by omega)]; omega
      obtain ⟨e, t, er, he1, he2, hj, hni, ht0, ht1⟩ := hre
      rw [er] at hok ⊢
      have hRt := e_tick hR ht0 ht1
      rcases hok.2 with ⟨h59, hft2⟩ | ⟨h59, hen⟩
      · have h59 : m_has tx n e 59 59 := h59
        rw [if_pos h59, tz_event he1 he2 hj (Or.inr (tz_eq.mp h59.2)), if_pos e46, hni]
        exact go e t _ _ x N he1 he2 hRt (by omega) h59 hft2
      · have h59 : ¬ m_has tx n e 59 59 := h59
        have hen : e = n := hen
        rw [if_neg h59, tz_event he1 he2 hj (Or.inl hen), if_pos e46, hni, hen, fin]
        exact ⟨rfl, hRt.mono (Nat.le_add_right _ _)⟩
    · rw [if_neg c46]
      obtain ⟨hg48, hbm1, hre⟩ := m_re_gate hok.1 c46
      have hlt := hg48.1
      obtain ⟨g, hg, eg⟩ := m_gate_of hg48
      have n46 : ¬ tx s = 46 := fun z => c46 ⟨hlt, tz_eq.mpr z⟩
      have ns59 : ¬ tx s = 59 := fun z => by
        have q := (tz_in.mp hg48.2).2
        rw [z] at q
        exact absurd q (by decide)
      have hl := tz_letters hg (tx := tx) (n - (s + 1)) (s + 1) rfl (by omega) f a 0 x N hR (by omega)
      have hrun := m_ev_run (tx := tx) (tl := n) (g := g) (n - (s + 1)) (s + 1) a x (by omega) rfl
      rw [Int32.add_zero] at hl
      have eev : m_evx tx n s a x = m_ev tx n g (n - (s + 1)) (s + 1) a x := by
        unfold m_evx
        rw [eg, nI_clamp (by omega)]
      rw [eev, hrun]
      rw [hre] at hok
      generalize he : m_run tx n (n - (s + 1)) (s + 1) = e at hl hrun hok ⊢
      obtain ⟨⟨h1, h2⟩, h3, h4, h5⟩ := hl
      have hchb : p_chb tx s e f = p_cb tx g (e - (s + 1)) (s + 1) f 0 := by
        unfold p_chb
        have hn : ¬ p_ng (tx s - 48) := by rw [eg]; exact p_ng_no hg
        rw [if_neg hn, eg, nI_clamp (by omega)]
      have hj : ∀ j, s ≤ j → j < e → ¬ tx j = 59 := fun j z1 z2 => by
        by_cases z : j = s
        · rw [z]; exact ns59
        · exact h3 j (by omega) z2
      rcases hok.2 with ⟨h59, hft2⟩ | ⟨h59, hen⟩
      · have h59 : m_has tx n e 59 59 := h59
        have hft2 : (m_ftl tx n k2 (e + 1) nu).1 = -6 := hft2
        rw [if_pos h59, tz_event (by omega) h2 hj (Or.inr (tz_eq.mp h59.2)), if_neg n46, hchb, h4]
        have h9 := h59.1
        have ih := tz_rd h60 m (e + 1) k2 nu (by omega) (by omega) (by omega) hft2 _ _ (m_ev tx n g (n - (s + 1)) (s + 1) a x).2.1 (N + (e - (s + 1))) h5 (by omega)
        exact ⟨ih.1, ih.2.mono (by omega)⟩
      · have h59 : ¬ m_has tx n e 59 59 := h59
        have hen : e = n := hen
        rw [if_neg h59, tz_event (by omega) h2 hj (Or.inl hen), if_neg n46, hchb, h4]
        rw [hen, fin]
        rw [hen] at h5
        exact ⟨rfl, h5.mono (by omega)⟩
