/-! isStep: a case -/
set_option maxHeartbeats 4000000 in
set_option maxRecDepth 100000 in
theorem st_c0 {p : Program} {l : Launch} {e : Env} {s : State} {m : MethodId} {below : List Frame} {meth : Method} {c : Code} {D : va_G} {cI cC cZ cG : ClassId} {A : Nat → Prop} {tb lo hi : Nat} {ad bd : Nat → Nat} {x y : Int32} (C : st_C p s m meth c D cI cC cZ cG A tb lo hi ad bd x y) {N : Nat} {σ ρ : HS} (hR : Rel N σ ρ) (hN : N ≤ 50000) {Q : State → Prop} (hQ : Q = MQ below (st_Qc D cI cC cZ cG N ad bd A) (st_av ad bd x y) s 0 0 A) {H : Heap} {locs : List Loc} (hP : va_P D vwCl (hc cI cC cZ cG ad σ ++ hc cI cC cZ cG bd ρ) H) (hD : va_D A (hc cI cC cZ cG ad σ ++ hc cI cC cZ cG bd ρ)) (hS : va_S A s.heap H locs) {ls : Array Slot} (hl : lv_has ls 13 [(0, .ref (ad 0)), (1, .ref (bd 0)), (2, .int x), (3, .int y), (4, .int (x >>> (4 &&& 31)))]) : W p l e ({ frames := 7, cells := 0, slots := 0, locals := 160 } : Room) s m (st_av ad bd x y) below meth c H locs 0 0 Q (F0 m 76 ls []) := by
  obtain ⟨hx, hb, hr, hml, hown, hts, hlocks, hK, hA, hX⟩ := C
  obtain ⟨⟨ok, ok2⟩, ⟨hI, hI2, hM⟩, -⟩ := id hR
  have hn60 : sN σ ≤ 60 := ok.1
  have hm60 : sN ρ ≤ 60 := ok2.1
  refine lv_iload (pc := 76) hx hb dL_isStep_76 (lv_at hl 4 rfl) ?_
  refine lv_iconst (pc := 78) (v := 3) hx hb dL_isStep_78 (by decide) ?_
  refine b_cR (pc := 79) (va_runS (As := [.int (x >>> (4 &&& 31)), .int 3]) (rest := []) ⟨hx, hb, hml, hown, hts⟩ (c_L_up l D cI cC cZ cG (x >>> (4 &&& 31)) 3 (by omega) (by omega)) (va_cwS 2 hts gL_isStep_L_up rfl rfl rfl hyS_L_up ⟨Nat.le_of_ble_eq_true rfl, Nat.le_of_ble_eq_true rfl⟩) (b_pRs hK (fun k q hk => by simp at hk)) rfl rfl hl.1 rfl (lv_room (Nat.le_of_ble_eq_true rfl)) dL_isStep_79 ⟨Nat.zero_le _, Nat.zero_le _⟩) ?_
  obtain ⟨u0, eu0⟩ : ∃ z : Nat, u_up (x >>> (4 &&& 31)) 3 = z := ⟨_, rfl⟩
  have hu0 : u0 < 3 := eu0 ▸ u_lt _ (by omega)
  refine b_re (congrArg nI eu0) ?_
  refine lv_istore (pc := 82) (lv' := [(6, .int (nI u0)), (0, .ref (ad 0)), (1, .ref (bd 0)), (2, .int x), (3, .int y), (4, .int (x >>> (4 &&& 31)))]) hx hb dL_isStep_82 hl (by decide) rfl (fun ls hl => ?_)
  refine wj_cut (a := ∀ (v : Nat), ((u0 = 0 → 1 ≤ v ∧ v ≤ 200) ∧ (u0 = 1 → v ≤ 50) ∧ (u0 = 2 → 1 ≤ v ∧ v ≤ 500)) → W p l e ({ frames := 7, cells := 0, slots := 0, locals := 160 } : Room) s m (st_av ad bd x y) below meth c H locs 0 0 Q (F0 m 156 ls [.int (nI v)])) ?_ (fun J_1 => ?_)
  · skip
    intro v hjJ_1
    obtain ⟨hr1, hr2, hr3⟩ := st_rng hu0 hjJ_1
    refine lv_istore (pc := 156) (lv' := [(7, .int (nI v)), (6, .int (nI u0)), (0, .ref (ad 0)), (1, .ref (bd 0)), (2, .int x), (3, .int y), (4, .int (x >>> (4 &&& 31)))]) hx hb dL_isStep_156 hl (by decide) rfl (fun ls hl => ?_)
    refine lv_aload_n (pc := 158) hx hb dL_isStep_158 rfl (lv_at hl 2 rfl) ?_
    refine lv_iload (pc := 159) hx hb dL_isStep_159 (lv_at hl 1 rfl) ?_
    refine b_cR (pc := 161) (va_runV (As := [.int (nI u0)]) (rest := []) ⟨hx, hb, hml, hown, hts⟩ (k_count_lo l D cI cC cZ cG ad σ ok u0 (by omega)) (cwV 1 hts gL_isStep_X3_count rfl rfl rfl hy_X3_count ⟨Nat.le_of_ble_eq_true rfl, Nat.le_of_ble_eq_true rfl⟩) (b_pRc hK (b_PL hP) (hc_0 _ _ _ _ _ _)) rfl rfl hl.1 rfl (lv_room (Nat.le_of_ble_eq_true rfl)) dL_isStep_161 ⟨Nat.zero_le _, Nat.zero_le _⟩) ?_
    refine lv_istore (pc := 164) (lv' := [(8, .int (σ.1 u0)), (7, .int (nI v)), (6, .int (nI u0)), (0, .ref (ad 0)), (1, .ref (bd 0)), (2, .int x), (3, .int y), (4, .int (x >>> (4 &&& 31)))]) hx hb dL_isStep_164 hl (by decide) rfl (fun ls hl => ?_)
    refine lv_aload_n (pc := 166) hx hb dL_isStep_166 rfl (lv_at hl 3 rfl) ?_
    refine lv_iload (pc := 167) hx hb dL_isStep_167 (lv_at hl 2 rfl) ?_
    refine lv_iload (pc := 169) hx hb dL_isStep_169 (lv_at hl 1 rfl) ?_
    refine b_cWl (pc := 171) (w1 := hc cI cC cZ cG ad (sKeep σ (upd σ.1 u0 (nI v)) (sN σ))) (va_runV (As := [.int (nI u0), .int (nI v)]) (rest := []) ⟨hx, hb, hml, hown, hts⟩ (k_set l D cI cC cZ cG tb lo hi H.size ad σ ok u0 (nI v) hu0 hr1 hr2) (cwV 2 hts gL_isStep_X3_set rfl rfl rfl hy_X3_set ⟨Nat.le_of_ble_eq_true rfl, Nat.le_of_ble_eq_true rfl⟩) (b_pWc hK (b_PL hP) (b_DL hD) (b_Xok_X tb lo hi) (b_Xc0 hX (b_DL hD) hS hA) (hc_0 _ _ _ _ _ _)) rfl rfl hl.1 rfl (lv_room (Nat.le_of_ble_eq_true rfl)) dL_isStep_171 ⟨Nat.zero_le _, Nat.zero_le _⟩) hP hD hS hA (hc_ad _ _ _ _ _ _ _) (fun H locs hP hD hS => ?_)
    refine lv_iload (pc := 174) hx hb dL_isStep_174 (lv_at hl 0 rfl) ?_
    refine lv_icmp_ne (pc := 176) (tgt := 207) hx hb dL_isStep_176 (by decide) (fun c_2 => ?_) (fun c_2 => ?_)
    · skip
      have c_2 : ¬ ((σ.1 u0) = (σ.1 u0)) := c_2
      exact absurd rfl c_2
    · skip
      have c_2 : (σ.1 u0) = (σ.1 u0) := c_2
      refine lv_aload_n (pc := 179) hx hb dL_isStep_179 rfl (lv_at hl 4 rfl) ?_
      refine lv_iload (pc := 180) hx hb dL_isStep_180 (lv_at hl 2 rfl) ?_
      refine lv_iload (pc := 182) hx hb dL_isStep_182 (lv_at hl 1 rfl) ?_
      refine b_cWr (pc := 184) (w1 := hc cI cC cZ cG bd (sKeep ρ (upd ρ.1 u0 (nI v)) (sN ρ))) (va_runV (As := [.int (nI u0), .int (nI v)]) (rest := []) ⟨hx, hb, hml, hown, hts⟩ (k_set l D cI cC cZ cG tb lo hi H.size bd ρ ok2 u0 (nI v) hu0 hr1 hr2) (cwV 2 hts gL_isStep_X3_set rfl rfl rfl hy_X3_set ⟨Nat.le_of_ble_eq_true rfl, Nat.le_of_ble_eq_true rfl⟩) (b_pWc hK (b_PR hP) (b_DR hD) (b_Xok_X tb lo hi) (b_Xc0 hX (b_DR hD) hS hA) (hc_0 _ _ _ _ _ _)) rfl rfl hl.1 rfl (lv_room (Nat.le_of_ble_eq_true rfl)) dL_isStep_184 ⟨Nat.zero_le _, Nat.zero_le _⟩) hP hD hS hA (hc_ad _ _ _ _ _ _ _) (fun H locs hP hD hS => ?_)
      refine lv_iload (pc := 187) hx hb dL_isStep_187 (lv_at hl 0 rfl) ?_
      refine lv_icmp_ne (pc := 189) (tgt := 207) hx hb dL_isStep_189 (by decide) (fun c_3 => ?_) (fun c_3 => ?_)
      · skip
        have c_3 : ¬ ((ρ.1 u0) = (σ.1 u0)) := c_3
        exact absurd (hM.1 u0 (by omega)) c_3
      · skip
        have c_3 : (ρ.1 u0) = (σ.1 u0) := c_3
        refine lv_aload_n (pc := 192) hx hb dL_isStep_192 rfl (lv_at hl 3 rfl) ?_
        refine lv_iload (pc := 193) hx hb dL_isStep_193 (lv_at hl 2 rfl) ?_
        refine b_cR (pc := 195) (va_runV (As := [.int (nI u0)]) (rest := []) ⟨hx, hb, hml, hown, hts⟩ (k_count_lo l D cI cC cZ cG ad (sKeep σ (upd σ.1 u0 (nI v)) (sN σ)) (ok.keep _ ok.1) u0 (by omega)) (cwV 1 hts gL_isStep_X3_count rfl rfl rfl hy_X3_count ⟨Nat.le_of_ble_eq_true rfl, Nat.le_of_ble_eq_true rfl⟩) (b_pRc hK (b_PL hP) (hc_0 _ _ _ _ _ _)) rfl rfl hl.1 rfl (lv_room (Nat.le_of_ble_eq_true rfl)) dL_isStep_195 ⟨Nat.zero_le _, Nat.zero_le _⟩) ?_
        refine b_re (show _ = (upd σ.1 u0 (nI v)) u0 from rfl) ?_
        refine lv_iload (pc := 198) hx hb dL_isStep_198 (lv_at hl 1 rfl) ?_
        refine lv_icmp_ne (pc := 200) (tgt := 207) hx hb dL_isStep_200 (by decide) (fun c_4 => ?_) (fun c_4 => ?_)
        · skip
          have c_4 : ¬ (((upd σ.1 u0 (nI v)) u0) = (nI v)) := c_4
          exact absurd (pk_us) c_4
        · skip
          have c_4 : ((upd σ.1 u0 (nI v)) u0) = (nI v) := c_4
          refine lv_iconst (pc := 203) (v := 1) hx hb dL_isStep_203 (by decide) ?_
          refine lv_goto (pc := 204) (tgt := 208) hx hb dL_isStep_204 (by decide) ?_
          subst hQ
          exact st_ret hx hb hr hlocks hS (hR.set (by omega) hu0 hr3) hP dL_isStep_208
  · skip
    refine lv_iload (pc := 84) hx hb dL_isStep_84 (lv_at hl 0 rfl) ?_
    refine lv_if_ne (pc := 86) (tgt := 117) hx hb dL_isStep_86 (by decide) (fun c_5 => ?_) (fun c_5 => ?_)
    · skip
      have c_5 : ¬ (u0 = 0) := fun h9 => c_5 ((nI_eq (a := u0) (b := 0) (by omega) (by omega)).mpr h9)
      refine lv_iload (pc := 117) hx hb dL_isStep_117 (lv_at hl 0 rfl) ?_
      refine lv_iconst (pc := 119) (v := 1) hx hb dL_isStep_119 (by decide) ?_
      refine lv_icmp_ne (pc := 120) (tgt := 132) hx hb dL_isStep_120 (by decide) (fun c_6 => ?_) (fun c_6 => ?_)
      · skip
        have c_6 : ¬ (u0 = 1) := fun h9 => c_6 ((nI_eq (a := u0) (b := 1) (by omega) (by omega)).mpr h9)
        refine lv_iconst (pc := 132) (v := 1) hx hb dL_isStep_132 (by decide) ?_
        refine lv_iload_n (pc := 133) hx hb dL_isStep_133 rfl (lv_at hl 4 rfl) ?_
        refine wj_cut (a := ∀ (n : Nat), (0 < n ∧ n ≤ 500) → W p l e ({ frames := 7, cells := 0, slots := 0, locals := 160 } : Room) s m (st_av ad bd x y) below meth c H locs 0 0 Q (F0 m 152 ls [.int (nI n), .int y, .int 1])) ?_ (fun J_7 => ?_)
        · skip
          intro n hjJ_7
          refine b_cR (pc := 152) (va_runS (As := [.int y, .int (nI n)]) (rest := [.int 1]) ⟨hx, hb, hml, hown, hts⟩ (c_L_up l D cI cC cZ cG y n (by omega) (by omega)) (va_cwS 2 hts gL_isStep_L_up rfl rfl rfl hyS_L_up ⟨Nat.le_of_ble_eq_true rfl, Nat.le_of_ble_eq_true rfl⟩) (b_pRs hK (fun k q hk => by simp at hk)) rfl rfl hl.1 rfl (lv_room (Nat.le_of_ble_eq_true rfl)) dL_isStep_152 ⟨Nat.zero_le _, Nat.zero_le _⟩) ?_
          obtain ⟨u1, eu1⟩ : ∃ z : Nat, u_up y n = z := ⟨_, rfl⟩
          have hu1 : u1 < n := eu1 ▸ u_lt _ (by omega)
          refine b_re (congrArg nI eu1) ?_
          refine lv_iadd (pc := 155) hx hb dL_isStep_155 ?_
          refine b_re (nI_add 1 u1) ?_
          exact J_1 (1 + u1) (by omega)
        · skip
          refine lv_iload (pc := 134) hx hb dL_isStep_134 (lv_at hl 5 rfl) ?_
          refine lv_iconst (pc := 136) (v := 3) hx hb dL_isStep_136 (by decide) ?_
          refine lv_ishr (pc := 137) hx hb dL_isStep_137 ?_
          refine lv_iconst (pc := 138) (v := 2) hx hb dL_isStep_138 (by decide) ?_
          refine b_cR (pc := 139) (va_runS (As := [.int ((x >>> (4 &&& 31)) >>> (3 &&& 31)), .int 2]) (rest := [.int y, .int 1]) ⟨hx, hb, hml, hown, hts⟩ (c_L_up l D cI cC cZ cG ((x >>> (4 &&& 31)) >>> (3 &&& 31)) 2 (by omega) (by omega)) (va_cwS 2 hts gL_isStep_L_up rfl rfl rfl hyS_L_up ⟨Nat.le_of_ble_eq_true rfl, Nat.le_of_ble_eq_true rfl⟩) (b_pRs hK (fun k q hk => by simp at hk)) rfl rfl hl.1 rfl (lv_room (Nat.le_of_ble_eq_true rfl)) dL_isStep_139 ⟨Nat.zero_le _, Nat.zero_le _⟩) ?_
          obtain ⟨u2, eu2⟩ : ∃ z : Nat, u_up ((x >>> (4 &&& 31)) >>> (3 &&& 31)) 2 = z := ⟨_, rfl⟩
          have hu2 : u2 < 2 := eu2 ▸ u_lt _ (by omega)
          refine b_re (congrArg nI eu2) ?_
          refine lv_if_ne (pc := 142) (tgt := 151) hx hb dL_isStep_142 (by decide) (fun c_8 => ?_) (fun c_8 => ?_)
          · skip
            have c_8 : ¬ (u2 = 0) := fun h9 => c_8 ((nI_eq (a := u2) (b := 0) (by omega) (by omega)).mpr h9)
            refine lv_iconst (pc := 151) (v := 4) hx hb dL_isStep_151 (by decide) ?_
            exact b_re (show _ = nI 4 from by decide) (J_7 4 (by omega))
          · skip
            have c_8 : u2 = 0 := (nI_eq (a := u2) (b := 0) (by omega) (by omega)).mp c_8
            refine lv_sipush (pc := 145) (v := 500) hx hb dL_isStep_145 (by decide) ?_
            refine lv_goto (pc := 148) (tgt := 152) hx hb dL_isStep_148 (by decide) ?_
            exact b_re (show _ = nI 500 from by decide) (J_7 500 (by omega))
      · skip
        have c_6 : u0 = 1 := (nI_eq (a := u0) (b := 1) (by omega) (by omega)).mp c_6
        refine lv_iload_n (pc := 123) hx hb dL_isStep_123 rfl (lv_at hl 4 rfl) ?_
        refine lv_bipush (pc := 124) (v := 51) hx hb dL_isStep_124 (by decide) ?_
        refine b_cR (pc := 126) (va_runS (As := [.int y, .int 51]) (rest := []) ⟨hx, hb, hml, hown, hts⟩ (c_L_up l D cI cC cZ cG y 51 (by omega) (by omega)) (va_cwS 2 hts gL_isStep_L_up rfl rfl rfl hyS_L_up ⟨Nat.le_of_ble_eq_true rfl, Nat.le_of_ble_eq_true rfl⟩) (b_pRs hK (fun k q hk => by simp at hk)) rfl rfl hl.1 rfl (lv_room (Nat.le_of_ble_eq_true rfl)) dL_isStep_126 ⟨Nat.zero_le _, Nat.zero_le _⟩) ?_
        obtain ⟨u3, eu3⟩ : ∃ z : Nat, u_up y 51 = z := ⟨_, rfl⟩
        have hu3 : u3 < 51 := eu3 ▸ u_lt _ (by omega)
        refine b_re (congrArg nI eu3) ?_
        refine lv_goto (pc := 129) (tgt := 156) hx hb dL_isStep_129 (by decide) ?_
        exact J_1 u3 (by omega)
    · skip
      have c_5 : u0 = 0 := (nI_eq (a := u0) (b := 0) (by omega) (by omega)).mp c_5
      refine lv_iconst (pc := 89) (v := 1) hx hb dL_isStep_89 (by decide) ?_
      refine lv_iload_n (pc := 90) hx hb dL_isStep_90 rfl (lv_at hl 4 rfl) ?_
      refine wj_cut (a := ∀ (n : Nat), (0 < n ∧ n ≤ 200) → W p l e ({ frames := 7, cells := 0, slots := 0, locals := 160 } : Room) s m (st_av ad bd x y) below meth c H locs 0 0 Q (F0 m 110 ls [.int (nI n), .int y, .int 1])) ?_ (fun J_9 => ?_)
      · skip
        intro n hjJ_9
        refine b_cR (pc := 110) (va_runS (As := [.int y, .int (nI n)]) (rest := [.int 1]) ⟨hx, hb, hml, hown, hts⟩ (c_L_up l D cI cC cZ cG y n (by omega) (by omega)) (va_cwS 2 hts gL_isStep_L_up rfl rfl rfl hyS_L_up ⟨Nat.le_of_ble_eq_true rfl, Nat.le_of_ble_eq_true rfl⟩) (b_pRs hK (fun k q hk => by simp at hk)) rfl rfl hl.1 rfl (lv_room (Nat.le_of_ble_eq_true rfl)) dL_isStep_110 ⟨Nat.zero_le _, Nat.zero_le _⟩) ?_
        obtain ⟨u4, eu4⟩ : ∃ z : Nat, u_up y n = z := ⟨_, rfl⟩
        have hu4 : u4 < n := eu4 ▸ u_lt _ (by omega)
        refine b_re (congrArg nI eu4) ?_
        refine lv_iadd (pc := 113) hx hb dL_isStep_113 ?_
        refine b_re (nI_add 1 u4) ?_
        refine lv_goto (pc := 114) (tgt := 156) hx hb dL_isStep_114 (by decide) ?_
        exact J_1 (1 + u4) (by omega)
      · skip
        refine lv_iload (pc := 91) hx hb dL_isStep_91 (lv_at hl 5 rfl) ?_
        refine lv_iconst (pc := 93) (v := 3) hx hb dL_isStep_93 (by decide) ?_
        refine lv_ishr (pc := 94) hx hb dL_isStep_94 ?_
        refine lv_iconst (pc := 95) (v := 2) hx hb dL_isStep_95 (by decide) ?_
        refine b_cR (pc := 96) (va_runS (As := [.int ((x >>> (4 &&& 31)) >>> (3 &&& 31)), .int 2]) (rest := [.int y, .int 1]) ⟨hx, hb, hml, hown, hts⟩ (c_L_up l D cI cC cZ cG ((x >>> (4 &&& 31)) >>> (3 &&& 31)) 2 (by omega) (by omega)) (va_cwS 2 hts gL_isStep_L_up rfl rfl rfl hyS_L_up ⟨Nat.le_of_ble_eq_true rfl, Nat.le_of_ble_eq_true rfl⟩) (b_pRs hK (fun k q hk => by simp at hk)) rfl rfl hl.1 rfl (lv_room (Nat.le_of_ble_eq_true rfl)) dL_isStep_96 ⟨Nat.zero_le _, Nat.zero_le _⟩) ?_
        obtain ⟨u5, eu5⟩ : ∃ z : Nat, u_up ((x >>> (4 &&& 31)) >>> (3 &&& 31)) 2 = z := ⟨_, rfl⟩
        have hu5 : u5 < 2 := eu5 ▸ u_lt _ (by omega)
        refine b_re (congrArg nI eu5) ?_
        refine lv_if_ne (pc := 99) (tgt := 108) hx hb dL_isStep_99 (by decide) (fun c_10 => ?_) (fun c_10 => ?_)
        · skip
          have c_10 : ¬ (u5 = 0) := fun h9 => c_10 ((nI_eq (a := u5) (b := 0) (by omega) (by omega)).mpr h9)
          refine lv_bipush (pc := 108) (v := 9) hx hb dL_isStep_108 (by decide) ?_
          exact b_re (show _ = nI 9 from by decide) (J_9 9 (by omega))
        · skip
          have c_10 : u5 = 0 := (nI_eq (a := u5) (b := 0) (by omega) (by omega)).mp c_10
          refine lv_sipush (pc := 102) (v := 200) hx hb dL_isStep_102 (by decide) ?_
          refine lv_goto (pc := 105) (tgt := 110) hx hb dL_isStep_105 (by decide) ?_
          exact b_re (show _ = nI 200 from by decide) (J_9 200 (by omega))
