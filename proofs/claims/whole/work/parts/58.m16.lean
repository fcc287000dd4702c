section M16
variable {sh : List Shp} {me : Mem} {d kk : Nat} {S : St}
theorem c_M_outer2 {p n o : Nat} (z0 : sh[136]? = some (.inl 7)) (g1 : gR me 136 1 = some 137) (x1 : sh[137]? = some (.inr (0, 200))) (ho : 40 * p + 8 + 4 * (n - 1) = o) (hw : gI me 137 (40 * p + 3) = nI n) (hn : 0 < n) (hp : p < 5) : CI d mX7_outer sh [.ref 136, .int (nI p)] me (fun x m => x = nI o ∧ m = me) := by
  subst ho
  exact c_M_outer z0 g1 x1 hw hn hp
set_option maxHeartbeats 4000000 in
set_option maxRecDepth 100000 in
theorem c_M_ring (a b c : Int32) (hF : FixM sh me) (hR : RepM me S) (hlen : lenW S.1) (hd : 3 ≤ d) : CI d mX7_ring sh [.ref 136, .int a, .int b, .int c] me (fun x m => x = (sp_ring S a b c).1 ∧ GoodM sh me m (sp_ring S a b c).2) := by
  have hFs := hF
  obtain ⟨z0, ⟨x1, x2, x4, x5, x6, x10, x11, x12, x16, x17, x18, x21, x22, x24, x25, x26, x27⟩, ⟨g1, g2, g4, g5, g6, g10, g11, g12, g16, g17, g18, g21, g22, g24, g25, g26, g27⟩, gs⟩ := hF
  obtain ⟨v1, v2, v3, v4, v5, v6, v7, v8, v9, v10, v11, v12⟩ := id hR.1
  have hn5 := v1.1
  refine CI.mk (L := [.ref 136, .int a, .int b, .int c, .float 0, .float 0, .float 0, .float 0, .float 0]) (by decide) (Nat.le_of_ble_eq_true rfl) rfl ?_
  have bad : ¬ (isPn S.1.1 a ∧ isPn S.1.1 b ∧ ¬ a = b ∧ (c = -1 ∨ (isPn S.1.1 c ∧ ¬ a = c ∧ ¬ b = c))) → ∀ L4, Wa mX7_ring (0, fun _ => 0) d 0 0 sh.length (PI sh (fun x m => x = (sp_ring S a b c).1 ∧ GoodM sh me m (sp_ring S a b c).2)) 56 L4 [] sh me 0 0 := by
    intro hb L4
    unfold sp_ring
    rw [cif_f hb]
    refine wl_iconst (np := 57) (v := -1) dX7_ring_56 rfl (rfl) ?_
    refine wi_ret dX7_ring_57 rfl (rfl) (Nat.le_refl _) (Nat.le_refl _) ?_
    exact ⟨rfl, GoodM.same hFs hR⟩
  have pnn : ∀ {p : Int32}, isPn S.1.1 p → ¬ p = -1 := by
    rintro p ⟨k, hk, rfl⟩ q
    have := congrArg Int32.toInt q
    rw [nI_toInt (by omega)] at this
    have e1 : (-1 : Int32).toInt = -1 := rfl
    omega
  have main : isPn S.1.1 a → isPn S.1.1 b → ¬ a = b → (c = -1 ∨ (isPn S.1.1 c ∧ ¬ a = c ∧ ¬ b = c)) → Wa mX7_ring (0, fun _ => 0) d 0 0 sh.length (PI sh (fun x m => x = (sp_ring S a b c).1 ∧ GoodM sh me m (sp_ring S a b c).2)) 58 [.ref 136, .int a, .int b, .int c, .int 0, .float 0, .float 0, .float 0, .float 0] [] sh me 0 0 := by
    intro hpa hpb hab hc
    have hgood : isPn S.1.1 a ∧ isPn S.1.1 b ∧ ¬ a = b ∧ (c = -1 ∨ (isPn S.1.1 c ∧ ¬ a = c ∧ ¬ b = c)) := ⟨hpa, hpb, hab, hc⟩
    unfold sp_ring
    rw [cif_t hgood]
    obtain ⟨ka, hka, rfl⟩ := hpa
    obtain ⟨kb, hkb, rfl⟩ := hpb
    have hab : ka ≠ kb := fun q => hab (by rw [q])
    obtain ⟨PA, hPA⟩ : ∃ P, S.1.1[ka]? = some P := ⟨_, List.getElem?_eq_getElem hka⟩
    obtain ⟨PB, hPB⟩ : ∃ P, S.1.1[kb]? = some P := ⟨_, List.getElem?_eq_getElem hkb⟩
    have hrA := v1.2 ka PA hPA
    have hrB := v1.2 kb PB hPB
    have a8 := hrA.2.2.2.2.1
    have b8 := hrB.2.2.2.2.1
    have lA := hlen PA (mem_of_get hPA)
    have lB := hlen PB (mem_of_get hPB)
    rcases hc with rfl | ⟨⟨kc, hkc, rfl⟩, hac, hbc⟩
    · rw [if_pos rfl]
      unfold ring2
      rw [getP_nI hPA (by omega), getP_nI hPB (by omega), nI_clamp (by omega), nI_clamp (by omega)]
      have notW : (PA.2.1.length = 0 ∨ PB.2.1.length = 0) → ∀ L4, Wa mX7_ring (0, fun _ => 0) d 0 0 sh.length (PI sh (fun x m => x = (if PA.2.1.length = 0 ∨ PB.2.1.length = 0 then (-2, S) else if sav2 PA PB = 0 then (-4, S) else (sav2 PA PB, setPs S ((S.1.1.set ka (setLast PA (lastC PB))).set kb (setLast PB (lastC PA))))).1 ∧ GoodM sh me m (if PA.2.1.length = 0 ∨ PB.2.1.length = 0 then (-2, S) else if sav2 PA PB = 0 then (-4, S) else (sav2 PA PB, setPs S ((S.1.1.set ka (setLast PA (lastC PB))).set kb (setLast PB (lastC PA))))).2)) 104 L4 [] sh me 0 0 := by
        intro hz L4
        rw [if_pos hz]
        refine wl_bipush (np := 106) (v := -2) dX7_ring_104 rfl (by decide) ?_
        refine wi_ret dX7_ring_106 rfl (rfl) (Nat.le_refl _) (Nat.le_refl _) ?_
        exact ⟨rfl, GoodM.same hFs hR⟩
      refine ld_a0 (np := 59) dX7_ring_58 rfl ?_
      refine wl_getr (np := 62) dX7_ring_59 rfl fl_X7_7 rfl (by assumption) (by assumption) ?_
      refine wl_bipush (np := 64) (v := nI 40) dX7_ring_62 rfl (by decide) ?_
      refine ld_i1 (np := 65) dX7_ring_64 rfl ?_
      refine wl_imul (np := 66) dX7_ring_65 rfl ?_
      refine wl_iconst (np := 67) (v := nI 3) dX7_ring_66 rfl (rfl) ?_
      refine wl_iadd (np := 68) dX7_ring_67 rfl ?_
      refine wl_ialoadN (np := 69) dX7_ring_68 rfl (by first | (simp only [nIm, nIa, ← nI_succ]; exact rfl) | exact nI_z | exact nI_o | exact rfl) (by assumption) (by omega) (by first | decide | omega) ?_
      refine wl_if_eq (np := 72) (tg := 104) dX7_ring_69 rfl rfl (fun c_69 => ?_) (fun c_69 => ?_)
      · rw [hrA.2.2.2.1, nI_z, nI_eq (by omega) (by omega)] at c_69
        exact notW (Or.inl c_69) _
      · rw [hrA.2.2.2.1, nI_z, nI_eq (by omega) (by omega)] at c_69
        refine ld_a0 (np := 73) dX7_ring_72 rfl ?_
        refine wl_getr (np := 76) dX7_ring_73 rfl fl_X7_7 rfl (by assumption) (by assumption) ?_
        refine wl_bipush (np := 78) (v := nI 40) dX7_ring_76 rfl (by decide) ?_
        refine ld_i2 (np := 79) dX7_ring_78 rfl ?_
        refine wl_imul (np := 80) dX7_ring_79 rfl ?_
        refine wl_iconst (np := 81) (v := nI 3) dX7_ring_80 rfl (rfl) ?_
        refine wl_iadd (np := 82) dX7_ring_81 rfl ?_
        refine wl_ialoadN (np := 83) dX7_ring_82 rfl (by first | (simp only [nIm, nIa, ← nI_succ]; exact rfl) | exact nI_z | exact nI_o | exact rfl) (by assumption) (by omega) (by first | decide | omega) ?_
        refine wl_if_eq (np := 86) (tg := 104) dX7_ring_83 rfl rfl (fun c_83 => ?_) (fun c_83 => ?_)
        · rw [hrB.2.2.2.1, nI_z, nI_eq (by omega) (by omega)] at c_83
          exact notW (Or.inr c_83) _
        · rw [hrB.2.2.2.1, nI_z, nI_eq (by omega) (by omega)] at c_83
          rw [if_neg (by omega)]
          refine ld_i3 (np := 87) dX7_ring_86 rfl ?_
          refine wl_if_lt (np := 90) (tg := 107) dX7_ring_87 rfl rfl (fun c_87 => ?_) (fun c_87 => ?_)
          · refine ld_a0 (np := 108) dX7_ring_107 rfl ?_
            refine ld_i1 (np := 109) dX7_ring_108 rfl ?_
            refine ld_i2 (np := 110) dX7_ring_109 rfl ?_
            refine ld_i3 (np := 111) dX7_ring_110 rfl ?_
            refine ciV_3 (np := 114) dX7_ring_111 rfl lk_X7_186 (by assumption) (Nat.le_of_ble_eq_true rfl) (by omega) (Nat.le_refl _) (Nat.le_refl _) (c_M_saved2 hFs hrA hrB (v2 ka PA hPA) (v2 kb PB hPB) lA lB (by omega) (by omega) (by omega) (by omega) (by omega)) (fun x_111 m_111 h_111 => ?_)
            obtain ⟨rfl, q_111⟩ := h_111
            have q_111 := q_111.symm
            subst q_111
            refine st_i5 (np := 116) dX7_ring_114 rfl (by decide) rfl ?_
            refine ld_i5 (np := 118) dX7_ring_116 rfl ?_
            refine wl_if_ne (np := 121) (tg := 124) dX7_ring_118 rfl rfl (fun c_118 => ?_) (fun c_118 => ?_)
            · rw [if_neg c_118]
              generalize hoa : 40 * ka + 8 + 4 * (PA.2.1.length - 1) = oa
              generalize hob : 40 * kb + 8 + 4 * (PB.2.1.length - 1) = ob
              have sA : ∀ k, k ≤ 4 → sw2F (gI me 137) oa ob k (40 * ka + 3) = nI PA.2.1.length := fun k hk => by
                unfold sw2F
                rw [if_neg (by omega), if_neg (by omega)]
                exact hrA.2.2.2.1
              have sB : ∀ k, k ≤ 4 → sw2F (gI me 137) oa ob k (40 * kb + 3) = nI PB.2.1.length := fun k hk => by
                unfold sw2F
                rw [if_neg (by omega), if_neg (by omega)]
                exact hrB.2.2.2.1
              have key : ∀ fuel k, 4 - k < fuel → k ≤ 4 → ∀ w8, w8.category = 1 → Wa mX7_ring (0, fun _ => 0) d 0 0 sh.length (PI sh (fun x m => x = (sav2 PA PB, setPs S ((S.1.1.set ka (setLast PA (lastC PB))).set kb (setLast PB (lastC PA)))).1 ∧ GoodM sh me m (sav2 PA PB, setPs S ((S.1.1.set ka (setLast PA (lastC PB))).set kb (setLast PB (lastC PA)))).2)) 138 [.ref 136, .int (nI ka), .int (nI kb), .int (-1), .int 0, .int (sav2 PA PB), .int (nI kb), .int (nI k), w8] [] sh (uA me 137 (sw2F (gI me 137) oa ob k)) 0 0 := by
                intro fuel
                induction fuel with
                | zero => intro k h; omega
                | succ fuel ih =>
                  intro k hk1 hk2 w8 hw8
                  refine ld_i7 (np := 140) dX7_ring_138 rfl ?_
                  refine wl_iconst (np := 141) (v := nI 4) dX7_ring_140 rfl (rfl) ?_
                  refine wl_icmp_ge (np := 144) (tg := 258) dX7_ring_141 rfl rfl (fun c_141 => ?_) (fun c_141 => ?_)
                  · rw [nI_le_iff (by omega) (by omega)] at c_141
                    have hke : k = 4 := by omega
                    subst hke
                    refine ld_i5 (np := 260) dX7_ring_258 rfl ?_
                    refine wi_ret dX7_ring_260 rfl (rfl) (Nat.le_refl _) (Nat.le_refl _) ?_
                    refine ⟨rfl, ?_⟩
                    have la := rep_last hrA (by omega)
                    have lb := rep_last hrB (by omega)
                    have y1 : RepQ (sw2F (gI me 137) oa ob 4) ka (setLast PA (lastC PB)) := rep_setLast (o := 0) hrA (by omega) (by
                      rw [hob] at lb
                      rw [hoa]
                      unfold sw2F
                      rw [if_pos (by omega), if_pos (by omega), if_pos (by omega), if_pos (by omega), show ob + (oa - oa) = ob by omega, show ob + (oa + 1 - oa) = ob + 1 by omega, show ob + (oa + 2 - oa) = ob + 2 by omega, show ob + (oa + 3 - oa) = ob + 3 by omega]
                      exact lb) (fun x h1 h2 h3 => by unfold sw2F; rw [if_neg (by omega), if_neg (by omega)])
                    have y2 : RepQ (sw2F (gI me 137) oa ob 4) kb (setLast PB (lastC PA)) := rep_setLast (o := 0) hrB (by omega) (by
                      rw [hoa] at la
                      rw [hob]
                      unfold sw2F
                      rw [if_neg (by omega), if_pos (by omega), if_neg (by omega), if_pos (by omega), if_neg (by omega), if_pos (by omega), if_neg (by omega), if_pos (by omega), show oa + (ob - ob) = oa by omega, show oa + (ob + 1 - ob) = oa + 1 by omega, show oa + (ob + 2 - ob) = oa + 2 by omega, show oa + (ob + 3 - ob) = oa + 3 by omega]
                      exact la) (fun x h1 h2 h3 => by unfold sw2F; rw [if_neg (by omega), if_neg (by omega)])
                    refine GoodM.ps hFs hR rfl (RfM.of rfl) (by simp) ⟨by simp; omega, fun p P hp => ?_⟩ (repT_set (repT_set v2 hka (v2 ka PA hPA)) (by simp; omega) (v2 kb PB hPB))
                    rw [List.getElem?_set] at hp
                    by_cases hpb : kb = p
                    · subst hpb
                      rw [if_pos rfl, if_pos (by simp; omega)] at hp
                      cases hp
                      exact y2
                    · rw [if_neg hpb, List.getElem?_set] at hp
                      by_cases hpa : ka = p
                      · subst hpa
                        rw [if_pos rfl, if_pos (by omega)] at hp
                        cases hp
                        exact y1
                      · rw [if_neg hpa] at hp
                        exact (v1.2 p P hp).fr (fun x h1 h2 => by unfold sw2F; rw [if_neg (by omega), if_neg (by omega)])
                  · rw [nI_le_iff (by omega) (by omega)] at c_141
                    have oB : ∀ d', CI d' mX7_outer sh [.ref 136, .int (nI kb)] (uA me 137 (sw2F (gI me 137) oa ob k)) (fun x m => x = nI ob ∧ m = uA me 137 (sw2F (gI me 137) oa ob k)) := fun d' => by
                      rw [← hob]
                      exact c_M_outer z0 g1 x1 (by rw [gI_uAs, hob]; exact sB k (by omega)) (by omega) (by omega)
                    have oA : ∀ d', CI d' mX7_outer sh [.ref 136, .int (nI ka)] (uA me 137 (sw2F (gI me 137) oa ob k)) (fun x m => x = nI oa ∧ m = uA me 137 (sw2F (gI me 137) oa ob k)) := fun d' => by
                      rw [← hoa]
                      exact c_M_outer z0 g1 x1 (by rw [gI_uAs, hoa]; exact sA k (by omega)) (by omega) (by omega)
                    refine ld_a0 (np := 145) dX7_ring_144 rfl ?_
                    refine wl_getr (np := 148) dX7_ring_145 rfl fl_X7_7 rfl (by assumption) (by assumption) ?_
                    refine ld_a0 (np := 149) dX7_ring_148 rfl ?_
                    refine ld_i6 (np := 151) dX7_ring_149 rfl ?_
                    refine ciV_1 (np := 154) dX7_ring_151 rfl lk_X7_180 (by assumption) (Nat.le_of_ble_eq_true rfl) (by omega) (Nat.le_refl _) (Nat.le_refl _) (oB _) (fun x_151 m_151 h_151 => ?_)
                    obtain ⟨rfl, q_151⟩ := h_151
                    have q_151 := q_151.symm
                    subst q_151
                    refine ld_i7 (np := 156) dX7_ring_154 rfl ?_
                    refine wl_iadd (np := 157) dX7_ring_156 rfl ?_
                    refine wl_ialoadN (np := 158) dX7_ring_157 rfl (by first | (simp only [nIm, nIa, ← nI_succ]; exact rfl) | exact nI_z | exact nI_o | exact rfl) (by assumption) (by omega) (by first | decide | omega) ?_
                    refine st_i8 (np := 160) dX7_ring_158 rfl (by decide) rfl ?_
                    refine ld_a0 (np := 161) dX7_ring_160 rfl ?_
                    refine wl_getr (np := 164) dX7_ring_161 rfl fl_X7_7 rfl (by assumption) (by assumption) ?_
                    refine ld_a0 (np := 165) dX7_ring_164 rfl ?_
                    refine ld_i6 (np := 167) dX7_ring_165 rfl ?_
                    refine ciV_1 (np := 170) dX7_ring_167 rfl lk_X7_180 (by assumption) (Nat.le_of_ble_eq_true rfl) (by omega) (Nat.le_refl _) (Nat.le_refl _) (oB _) (fun x_167 m_167 h_167 => ?_)
                    obtain ⟨rfl, q_167⟩ := h_167
                    have q_167 := q_167.symm
                    subst q_167
                    refine ld_i7 (np := 172) dX7_ring_170 rfl ?_
                    refine wl_iadd (np := 173) dX7_ring_172 rfl ?_
                    refine ld_i3 (np := 174) dX7_ring_173 rfl ?_
                    refine wl_if_ge (np := 177) (tg := 193) dX7_ring_174 rfl rfl (fun c_174 => ?_) (fun c_174 => ?_)
                    · exact absurd c_174 (by decide)
                    · skip
                      refine ld_a0 (np := 178) dX7_ring_177 rfl ?_
                      refine wl_getr (np := 181) dX7_ring_178 rfl fl_X7_7 rfl (by assumption) (by assumption) ?_
                      refine ld_a0 (np := 182) dX7_ring_181 rfl ?_
                      refine ld_i1 (np := 183) dX7_ring_182 rfl ?_
                      refine ciV_1 (np := 186) dX7_ring_183 rfl lk_X7_180 (by assumption) (Nat.le_of_ble_eq_true rfl) (by omega) (Nat.le_refl _) (Nat.le_refl _) (oA _) (fun x_183 m_183 h_183 => ?_)
                      obtain ⟨rfl, q_183⟩ := h_183
                      have q_183 := q_183.symm
                      subst q_183
                      refine ld_i7 (np := 188) dX7_ring_186 rfl ?_
                      refine wl_iadd (np := 189) dX7_ring_188 rfl ?_
                      refine wl_ialoadN (np := 190) dX7_ring_189 rfl (by first | (simp only [nIm, nIa, ← nI_succ]; exact rfl) | exact nI_z | exact nI_o | exact rfl) (by assumption) (by omega) (by first | decide | omega) ?_
                      refine wl_goto (tg := 206) dX7_ring_190 rfl ?_
                      refine wl_iastoreN (np := 207) dX7_ring_206 rfl (by first | (simp only [nIm, nIa, ← nI_succ]; exact rfl) | exact nI_z | exact nI_o | exact rfl) (by assumption) (by omega) (by first | decide | omega) ?_
                      rw [gI_uAs, uI_uA]
                      have ea : sw2F (gI me 137) oa ob k (oa + k) = gI me 137 (oa + k) := by unfold sw2F; rw [if_neg (by omega), if_neg (by omega)]
                      have eb : sw2F (gI me 137) oa ob k (ob + k) = gI me 137 (ob + k) := by unfold sw2F; rw [if_neg (by omega), if_neg (by omega)]
                      rw [ea, eb]
                      generalize hF5 : upF (sw2F (gI me 137) oa ob k) (ob + k) (gI me 137 (oa + k)) = F5
                      have oA2 : ∀ d', CI d' mX7_outer sh [.ref 136, .int (nI ka)] (uA me 137 F5) (fun x m => x = nI oa ∧ m = uA me 137 F5) := fun d' => by
                        rw [← hoa]
                        refine c_M_outer z0 g1 x1 ?_ (by omega) (by omega)
                        rw [gI_uAs, ← hF5, upF_n (by omega)]
                        exact sA k (by omega)
                      refine ld_i3 (np := 208) dX7_ring_207 rfl ?_
                      refine wl_if_lt (np := 211) (tg := 237) dX7_ring_208 rfl rfl (fun c_208 => ?_) (fun c_208 => ?_)
                      · refine ld_a0 (np := 238) dX7_ring_237 rfl ?_
                        refine wl_getr (np := 241) dX7_ring_238 rfl fl_X7_7 rfl (by assumption) (by assumption) ?_
                        refine ld_a0 (np := 242) dX7_ring_241 rfl ?_
                        refine ld_i1 (np := 243) dX7_ring_242 rfl ?_
                        refine ciV_1 (np := 246) dX7_ring_243 rfl lk_X7_180 (by assumption) (Nat.le_of_ble_eq_true rfl) (by omega) (Nat.le_refl _) (Nat.le_refl _) (oA2 _) (fun x_243 m_243 h_243 => ?_)
                        obtain ⟨rfl, q_243⟩ := h_243
                        have q_243 := q_243.symm
                        subst q_243
                        refine ld_i7 (np := 248) dX7_ring_246 rfl ?_
                        refine wl_iadd (np := 249) dX7_ring_248 rfl ?_
                        refine ld_i8 (np := 251) dX7_ring_249 rfl ?_
                        refine wl_iastoreN (np := 252) dX7_ring_251 rfl (by first | (simp only [nIm, nIa, ← nI_succ]; exact rfl) | exact nI_z | exact nI_o | exact rfl) (by assumption) (by omega) (by first | decide | omega) ?_
                        refine inc_7 (np := 255) (v := _ + 1) dX7_ring_252 rfl rfl (by decide) rfl ?_
                        refine wl_goto (tg := 138) dX7_ring_255 rfl ?_
                        rw [uI_uA, ← nI_succ]
                        have hg : upF F5 (oa + k) (gI me 137 (ob + k)) = sw2F (gI me 137) oa ob (k + 1) := by
                          rw [← hF5]
                          funext x
                          by_cases hxa : x = oa + k
                          · subst hxa
                            rw [upF_s]
                            unfold sw2F
                            rw [if_pos (by omega)]
                            congr 1
                            omega
                          · rw [upF_n hxa]
                            by_cases hxb : x = ob + k
                            · subst hxb
                              rw [upF_s]
                              unfold sw2F
                              rw [if_neg (by omega), if_pos (by omega)]
                              congr 1
                              omega
                            · rw [upF_n hxb]
                              unfold sw2F
                              by_cases h1 : oa ≤ x ∧ x < oa + k
                              · rw [if_pos h1, if_pos (show oa ≤ x ∧ x < oa + (k + 1) by omega)]
                              · rw [if_neg h1, if_neg (show ¬ (oa ≤ x ∧ x < oa + (k + 1)) by omega)]
                                exact if_iff (by omega)
                        rw [hg]
                        exact ih (k + 1) (by omega) (by omega) _ rfl
                      · exact absurd (show (-1 : Int32) < 0 by decide) c_208
              refine ld_i3 (np := 125) dX7_ring_124 rfl ?_
              refine wl_if_ge (np := 128) (tg := 132) dX7_ring_125 rfl rfl (fun c_125 => ?_) (fun c_125 => ?_)
              · exact absurd c_125 (by decide)
              · refine ld_i2 (np := 129) dX7_ring_128 rfl ?_
                refine wl_goto (tg := 133) dX7_ring_129 rfl ?_
                refine st_i6 (np := 135) dX7_ring_133 rfl (by decide) rfl ?_
                refine wl_iconst (np := 136) (v := 0) dX7_ring_135 rfl (rfl) ?_
                refine st_i7 (np := 138) dX7_ring_136 rfl (by decide) rfl ?_
                have h0 := key 5 0 (by omega) (by omega) (.float 0) rfl
                have e0 : sw2F (gI me 137) oa ob 0 = gI me 137 := by
                  funext x
                  unfold sw2F
                  rw [if_neg (by omega), if_neg (by omega)]
                rw [e0, uA_id] at h0
                exact h0
            · rw [if_pos c_118]
              refine wl_bipush (np := 123) (v := -4) dX7_ring_121 rfl (by decide) ?_
              refine wi_ret dX7_ring_123 rfl (rfl) (Nat.le_refl _) (Nat.le_refl _) ?_
              exact ⟨rfl, GoodM.same hFs hR⟩
          · exact absurd (show (-1 : Int32) < 0 by decide) c_87
    · rw [if_neg (pnn ⟨kc, hkc, rfl⟩)]
      have hac : ka ≠ kc := fun q => hac (by rw [q])
      have hbc : kb ≠ kc := fun q => hbc (by rw [q])
      have hc0 : (0 : Int32) ≤ nI kc := nI_pos' (by omega)
      obtain ⟨PC, hPC⟩ : ∃ P, S.1.1[kc]? = some P := ⟨_, List.getElem?_eq_getElem hkc⟩
      have hrC := v1.2 kc PC hPC
      have c8 := hrC.2.2.2.2.1
      have lC := hlen PC (mem_of_get hPC)
      unfold ring3
      rw [getP_nI hPA (by omega), getP_nI hPB (by omega), getP_nI hPC (by omega), nI_clamp (by omega), nI_clamp (by omega), nI_clamp (by omega)]
      have notW : (PA.2.1.length = 0 ∨ PB.2.1.length = 0 ∨ PC.2.1.length = 0) → ∀ L4, Wa mX7_ring (0, fun _ => 0) d 0 0 sh.length (PI sh (fun x m => x = (if PA.2.1.length = 0 ∨ PB.2.1.length = 0 ∨ PC.2.1.length = 0 then (-2, S) else if sav3 PA PB PC = 0 then (-4, S) else (sav3 PA PB PC, setPs S (((S.1.1.set ka (setLast PA (lastC PC))).set kb (setLast PB (lastC PA))).set kc (setLast PC (lastC PB))))).1 ∧ GoodM sh me m (if PA.2.1.length = 0 ∨ PB.2.1.length = 0 ∨ PC.2.1.length = 0 then (-2, S) else if sav3 PA PB PC = 0 then (-4, S) else (sav3 PA PB PC, setPs S (((S.1.1.set ka (setLast PA (lastC PC))).set kb (setLast PB (lastC PA))).set kc (setLast PC (lastC PB))))).2)) 104 L4 [] sh me 0 0 := by
        intro hz L4
        rw [if_pos hz]
        refine wl_bipush (np := 106) (v := -2) dX7_ring_104 rfl (by decide) ?_
        refine wi_ret dX7_ring_106 rfl (rfl) (Nat.le_refl _) (Nat.le_refl _) ?_
        exact ⟨rfl, GoodM.same hFs hR⟩
      refine ld_a0 (np := 59) dX7_ring_58 rfl ?_
      refine wl_getr (np := 62) dX7_ring_59 rfl fl_X7_7 rfl (by assumption) (by assumption) ?_
      refine wl_bipush (np := 64) (v := nI 40) dX7_ring_62 rfl (by decide) ?_
      refine ld_i1 (np := 65) dX7_ring_64 rfl ?_
      refine wl_imul (np := 66) dX7_ring_65 rfl ?_
      refine wl_iconst (np := 67) (v := nI 3) dX7_ring_66 rfl (rfl) ?_
      refine wl_iadd (np := 68) dX7_ring_67 rfl ?_
      refine wl_ialoadN (np := 69) dX7_ring_68 rfl (by first | (simp only [nIm, nIa, ← nI_succ]; exact rfl) | exact nI_z | exact nI_o | exact rfl) (by assumption) (by omega) (by first | decide | omega) ?_
      refine wl_if_eq (np := 72) (tg := 104) dX7_ring_69 rfl rfl (fun c_69 => ?_) (fun c_69 => ?_)
      · rw [hrA.2.2.2.1, nI_z, nI_eq (by omega) (by omega)] at c_69
        exact notW (Or.inl c_69) _
      · rw [hrA.2.2.2.1, nI_z, nI_eq (by omega) (by omega)] at c_69
        refine ld_a0 (np := 73) dX7_ring_72 rfl ?_
        refine wl_getr (np := 76) dX7_ring_73 rfl fl_X7_7 rfl (by assumption) (by assumption) ?_
        refine wl_bipush (np := 78) (v := nI 40) dX7_ring_76 rfl (by decide) ?_
        refine ld_i2 (np := 79) dX7_ring_78 rfl ?_
        refine wl_imul (np := 80) dX7_ring_79 rfl ?_
        refine wl_iconst (np := 81) (v := nI 3) dX7_ring_80 rfl (rfl) ?_
        refine wl_iadd (np := 82) dX7_ring_81 rfl ?_
        refine wl_ialoadN (np := 83) dX7_ring_82 rfl (by first | (simp only [nIm, nIa, ← nI_succ]; exact rfl) | exact nI_z | exact nI_o | exact rfl) (by assumption) (by omega) (by first | decide | omega) ?_
        refine wl_if_eq (np := 86) (tg := 104) dX7_ring_83 rfl rfl (fun c_83 => ?_) (fun c_83 => ?_)
        · rw [hrB.2.2.2.1, nI_z, nI_eq (by omega) (by omega)] at c_83
          exact notW (Or.inr (Or.inl c_83)) _
        · rw [hrB.2.2.2.1, nI_z, nI_eq (by omega) (by omega)] at c_83
          refine ld_i3 (np := 87) dX7_ring_86 rfl ?_
          refine wl_if_lt (np := 90) (tg := 107) dX7_ring_87 rfl rfl (fun c_87 => ?_) (fun c_87 => ?_)
          · exact absurd c_87 (Int32.not_lt.mpr hc0)
          · refine ld_a0 (np := 91) dX7_ring_90 rfl ?_
            refine wl_getr (np := 94) dX7_ring_91 rfl fl_X7_7 rfl (by assumption) (by assumption) ?_
            refine wl_bipush (np := 96) (v := nI 40) dX7_ring_94 rfl (by decide) ?_
            refine ld_i3 (np := 97) dX7_ring_96 rfl ?_
            refine wl_imul (np := 98) dX7_ring_97 rfl ?_
            refine wl_iconst (np := 99) (v := nI 3) dX7_ring_98 rfl (rfl) ?_
            refine wl_iadd (np := 100) dX7_ring_99 rfl ?_
            refine wl_ialoadN (np := 101) dX7_ring_100 rfl (by first | (simp only [nIm, nIa, ← nI_succ]; exact rfl) | exact nI_z | exact nI_o | exact rfl) (by assumption) (by omega) (by first | decide | omega) ?_
            refine wl_if_ne (np := 104) (tg := 107) dX7_ring_101 rfl rfl (fun c_101 => ?_) (fun c_101 => ?_)
            · rw [hrC.2.2.2.1, nI_z, nI_eq (by omega) (by omega)] at c_101
              rw [if_neg (by omega)]
              refine ld_a0 (np := 108) dX7_ring_107 rfl ?_
              refine ld_i1 (np := 109) dX7_ring_108 rfl ?_
              refine ld_i2 (np := 110) dX7_ring_109 rfl ?_
              refine ld_i3 (np := 111) dX7_ring_110 rfl ?_
              refine ciV_3 (np := 114) dX7_ring_111 rfl lk_X7_186 (by assumption) (Nat.le_of_ble_eq_true rfl) (by omega) (Nat.le_refl _) (Nat.le_refl _) (c_M_saved3 hFs hrA hrB hrC (v2 ka PA hPA) (v2 kb PB hPB) (v2 kc PC hPC) lA lB lC (by omega) (by omega) (by omega) (by omega) (by omega) (by omega) (by omega)) (fun x_111 m_111 h_111 => ?_)
              obtain ⟨rfl, q_111⟩ := h_111
              have q_111 := q_111.symm
              subst q_111
              refine st_i5 (np := 116) dX7_ring_114 rfl (by decide) rfl ?_
              refine ld_i5 (np := 118) dX7_ring_116 rfl ?_
              refine wl_if_ne (np := 121) (tg := 124) dX7_ring_118 rfl rfl (fun c_118 => ?_) (fun c_118 => ?_)
              · rw [if_neg c_118]
                generalize hoa : 40 * ka + 8 + 4 * (PA.2.1.length - 1) = oa
                generalize hob : 40 * kb + 8 + 4 * (PB.2.1.length - 1) = ob
                generalize hoc : 40 * kc + 8 + 4 * (PC.2.1.length - 1) = oc
                have sA : ∀ k, k ≤ 4 → sw3F (gI me 137) oa ob oc k (40 * ka + 3) = nI PA.2.1.length := fun k hk => by
                  unfold sw3F
                  rw [if_neg (by omega), if_neg (by omega), if_neg (by omega)]
                  exact hrA.2.2.2.1
                have sB : ∀ k, k ≤ 4 → sw3F (gI me 137) oa ob oc k (40 * kb + 3) = nI PB.2.1.length := fun k hk => by
                  unfold sw3F
                  rw [if_neg (by omega), if_neg (by omega), if_neg (by omega)]
                  exact hrB.2.2.2.1
                have sC : ∀ k, k ≤ 4 → sw3F (gI me 137) oa ob oc k (40 * kc + 3) = nI PC.2.1.length := fun k hk => by
                  unfold sw3F
                  rw [if_neg (by omega), if_neg (by omega), if_neg (by omega)]
                  exact hrC.2.2.2.1
                have key : ∀ fuel k, 4 - k < fuel → k ≤ 4 → ∀ w8, w8.category = 1 → Wa mX7_ring (0, fun _ => 0) d 0 0 sh.length (PI sh (fun x m => x = (sav3 PA PB PC, setPs S (((S.1.1.set ka (setLast PA (lastC PC))).set kb (setLast PB (lastC PA))).set kc (setLast PC (lastC PB)))).1 ∧ GoodM sh me m (sav3 PA PB PC, setPs S (((S.1.1.set ka (setLast PA (lastC PC))).set kb (setLast PB (lastC PA))).set kc (setLast PC (lastC PB)))).2)) 138 [.ref 136, .int (nI ka), .int (nI kb), .int (nI kc), .int 0, .int (sav3 PA PB PC), .int (nI kc), .int (nI k), w8] [] sh (uA me 137 (sw3F (gI me 137) oa ob oc k)) 0 0 := by
                  intro fuel
                  induction fuel with
                  | zero => intro k h; omega
                  | succ fuel ih =>
                    intro k hk1 hk2 w8 hw8
                    refine ld_i7 (np := 140) dX7_ring_138 rfl ?_
                    refine wl_iconst (np := 141) (v := nI 4) dX7_ring_140 rfl (rfl) ?_
                    refine wl_icmp_ge (np := 144) (tg := 258) dX7_ring_141 rfl rfl (fun c_141 => ?_) (fun c_141 => ?_)
                    · rw [nI_le_iff (by omega) (by omega)] at c_141
                      have hke : k = 4 := by omega
                      subst hke
                      refine ld_i5 (np := 260) dX7_ring_258 rfl ?_
                      refine wi_ret dX7_ring_260 rfl (rfl) (Nat.le_refl _) (Nat.le_refl _) ?_
                      refine ⟨rfl, ?_⟩
                      have la := rep_last hrA (by omega)
                      have lb := rep_last hrB (by omega)
                      have lc := rep_last hrC (by omega)
                      have y1 : RepQ (sw3F (gI me 137) oa ob oc 4) ka (setLast PA (lastC PC)) := rep_setLast (o := 0) hrA (by omega) (by
                        rw [hoc] at lc
                        rw [hoa]
                        unfold sw3F
                        rw [if_pos (by omega), if_pos (by omega), if_pos (by omega), if_pos (by omega), show oc + (oa - oa) = oc by omega, show oc + (oa + 1 - oa) = oc + 1 by omega, show oc + (oa + 2 - oa) = oc + 2 by omega, show oc + (oa + 3 - oa) = oc + 3 by omega]
                        exact lc) (fun x h1 h2 h3 => by unfold sw3F; rw [if_neg (by omega), if_neg (by omega), if_neg (by omega)])
                      have y2 : RepQ (sw3F (gI me 137) oa ob oc 4) kb (setLast PB (lastC PA)) := rep_setLast (o := 0) hrB (by omega) (by
                        rw [hoa] at la
                        rw [hob]
                        unfold sw3F
                        rw [if_neg (by omega), if_pos (by omega), if_neg (by omega), if_pos (by omega), if_neg (by omega), if_pos (by omega), if_neg (by omega), if_pos (by omega), show oa + (ob - ob) = oa by omega, show oa + (ob + 1 - ob) = oa + 1 by omega, show oa + (ob + 2 - ob) = oa + 2 by omega, show oa + (ob + 3 - ob) = oa + 3 by omega]
                        exact la) (fun x h1 h2 h3 => by unfold sw3F; rw [if_neg (by omega), if_neg (by omega), if_neg (by omega)])
                      have y3 : RepQ (sw3F (gI me 137) oa ob oc 4) kc (setLast PC (lastC PB)) := rep_setLast (o := 0) hrC (by omega) (by
                        rw [hob] at lb
                        rw [hoc]
                        unfold sw3F
                        rw [if_neg (by omega), if_neg (by omega), if_pos (by omega), if_neg (by omega), if_neg (by omega), if_pos (by omega), if_neg (by omega), if_neg (by omega), if_pos (by omega), if_neg (by omega), if_neg (by omega), if_pos (by omega), show ob + (oc - oc) = ob by omega, show ob + (oc + 1 - oc) = ob + 1 by omega, show ob + (oc + 2 - oc) = ob + 2 by omega, show ob + (oc + 3 - oc) = ob + 3 by omega]
                        exact lb) (fun x h1 h2 h3 => by unfold sw3F; rw [if_neg (by omega), if_neg (by omega), if_neg (by omega)])
                      refine GoodM.ps hFs hR rfl (RfM.of rfl) (by simp) ⟨by simp; omega, fun p P hp => ?_⟩ (repT_set (repT_set (repT_set v2 hka (v2 ka PA hPA)) (by simp; omega) (v2 kb PB hPB)) (by simp; omega) (v2 kc PC hPC))
                      rw [List.getElem?_set] at hp
                      by_cases hpc : kc = p
                      · subst hpc
                        rw [if_pos rfl, if_pos (by simp; omega)] at hp
                        cases hp
                        exact y3
                      · rw [if_neg hpc, List.getElem?_set] at hp
                        by_cases hpb : kb = p
                        · subst hpb
                          rw [if_pos rfl, if_pos (by simp; omega)] at hp
                          cases hp
                          exact y2
                        · rw [if_neg hpb, List.getElem?_set] at hp
                          by_cases hpa : ka = p
                          · subst hpa
                            rw [if_pos rfl, if_pos (by omega)] at hp
                            cases hp
                            exact y1
                          · rw [if_neg hpa] at hp
                            exact (v1.2 p P hp).fr (fun x h1 h2 => by unfold sw3F; rw [if_neg (by omega), if_neg (by omega), if_neg (by omega)])
                    · rw [nI_le_iff (by omega) (by omega)] at c_141
                      have oC : ∀ d', CI d' mX7_outer sh [.ref 136, .int (nI kc)] (uA me 137 (sw3F (gI me 137) oa ob oc k)) (fun x m => x = nI oc ∧ m = uA me 137 (sw3F (gI me 137) oa ob oc k)) := fun d' => c_M_outer2 z0 g1 x1 hoc (by rw [gI_uAs]; exact sC k (by omega)) (by omega) (by omega)
                      have oB : ∀ d', CI d' mX7_outer sh [.ref 136, .int (nI kb)] (uA me 137 (sw3F (gI me 137) oa ob oc k)) (fun x m => x = nI ob ∧ m = uA me 137 (sw3F (gI me 137) oa ob oc k)) := fun d' => c_M_outer2 z0 g1 x1 hob (by rw [gI_uAs]; exact sB k (by omega)) (by omega) (by omega)
                      have ea : sw3F (gI me 137) oa ob oc k (oa + k) = gI me 137 (oa + k) := by unfold sw3F; rw [if_neg (by omega), if_neg (by omega), if_neg (by omega)]
                      have eb : sw3F (gI me 137) oa ob oc k (ob + k) = gI me 137 (ob + k) := by unfold sw3F; rw [if_neg (by omega), if_neg (by omega), if_neg (by omega)]
                      have ec : sw3F (gI me 137) oa ob oc k (oc + k) = gI me 137 (oc + k) := by unfold sw3F; rw [if_neg (by omega), if_neg (by omega), if_neg (by omega)]
                      refine ld_a0 (np := 145) dX7_ring_144 rfl ?_
                      refine wl_getr (np := 148) dX7_ring_145 rfl fl_X7_7 rfl (by assumption) (by assumption) ?_
                      refine ld_a0 (np := 149) dX7_ring_148 rfl ?_
                      refine ld_i6 (np := 151) dX7_ring_149 rfl ?_
                      refine ciV_1 (np := 154) dX7_ring_151 rfl lk_X7_180 (by assumption) (Nat.le_of_ble_eq_true rfl) (by omega) (Nat.le_refl _) (Nat.le_refl _) (oC _) (fun x_151 m_151 h_151 => ?_)
                      obtain ⟨rfl, q_151⟩ := h_151
                      have q_151 := q_151.symm
                      subst q_151
                      refine ld_i7 (np := 156) dX7_ring_154 rfl ?_
                      refine wl_iadd (np := 157) dX7_ring_156 rfl ?_
                      refine wl_ialoadN (np := 158) dX7_ring_157 rfl (by first | (simp only [nIm, nIa, ← nI_succ]; exact rfl) | exact nI_z | exact nI_o | exact rfl) (by assumption) (by omega) (by first | decide | omega) ?_
                      refine st_i8 (np := 160) dX7_ring_158 rfl (by decide) rfl ?_
                      refine ld_a0 (np := 161) dX7_ring_160 rfl ?_
                      refine wl_getr (np := 164) dX7_ring_161 rfl fl_X7_7 rfl (by assumption) (by assumption) ?_
                      refine ld_a0 (np := 165) dX7_ring_164 rfl ?_
                      refine ld_i6 (np := 167) dX7_ring_165 rfl ?_
                      refine ciV_1 (np := 170) dX7_ring_167 rfl lk_X7_180 (by assumption) (Nat.le_of_ble_eq_true rfl) (by omega) (Nat.le_refl _) (Nat.le_refl _) (oC _) (fun x_167 m_167 h_167 => ?_)
                      obtain ⟨rfl, q_167⟩ := h_167
                      have q_167 := q_167.symm
                      subst q_167
                      refine ld_i7 (np := 172) dX7_ring_170 rfl ?_
                      refine wl_iadd (np := 173) dX7_ring_172 rfl ?_
                      refine ld_i3 (np := 174) dX7_ring_173 rfl ?_
                      refine wl_if_ge (np := 177) (tg := 193) dX7_ring_174 rfl rfl (fun c_174 => ?_) (fun c_174 => ?_)
                      · skip
                        refine ld_a0 (np := 194) dX7_ring_193 rfl ?_
                        refine wl_getr (np := 197) dX7_ring_194 rfl fl_X7_7 rfl (by assumption) (by assumption) ?_
                        refine ld_a0 (np := 198) dX7_ring_197 rfl ?_
                        refine ld_i2 (np := 199) dX7_ring_198 rfl ?_
                        refine ciV_1 (np := 202) dX7_ring_199 rfl lk_X7_180 (by assumption) (Nat.le_of_ble_eq_true rfl) (by omega) (Nat.le_refl _) (Nat.le_refl _) (oB _) (fun x_199 m_199 h_199 => ?_)
                        obtain ⟨rfl, q_199⟩ := h_199
                        have q_199 := q_199.symm
                        subst q_199
                        refine ld_i7 (np := 204) dX7_ring_202 rfl ?_
                        refine wl_iadd (np := 205) dX7_ring_204 rfl ?_
                        refine wl_ialoadN (np := 206) dX7_ring_205 rfl (by first | (simp only [nIm, nIa, ← nI_succ]; exact rfl) | exact nI_z | exact nI_o | exact rfl) (by assumption) (by omega) (by first | decide | omega) ?_
                        refine wl_iastoreN (np := 207) dX7_ring_206 rfl (by first | (simp only [nIm, nIa, ← nI_succ]; exact rfl) | exact nI_z | exact nI_o | exact rfl) (by assumption) (by omega) (by first | decide | omega) ?_
                        rw [gI_uAs, uI_uA, eb, ec]
                        generalize hF5 : upF (sw3F (gI me 137) oa ob oc k) (oc + k) (gI me 137 (ob + k)) = F5
                        have oB2 : ∀ d', CI d' mX7_outer sh [.ref 136, .int (nI kb)] (uA me 137 F5) (fun x m => x = nI ob ∧ m = uA me 137 F5) := fun d' => c_M_outer2 z0 g1 x1 hob (by rw [gI_uAs, ← hF5, upF_n (by omega)]; exact sB k (by omega)) (by omega) (by omega)
                        have oA2 : ∀ d', CI d' mX7_outer sh [.ref 136, .int (nI ka)] (uA me 137 F5) (fun x m => x = nI oa ∧ m = uA me 137 F5) := fun d' => c_M_outer2 z0 g1 x1 hoa (by rw [gI_uAs, ← hF5, upF_n (by omega)]; exact sA k (by omega)) (by omega) (by omega)
                        refine ld_i3 (np := 208) dX7_ring_207 rfl ?_
                        refine wl_if_lt (np := 211) (tg := 237) dX7_ring_208 rfl rfl (fun c_208 => ?_) (fun c_208 => ?_)
                        · exact absurd c_208 (Int32.not_lt.mpr hc0)
                        · skip
                          refine ld_a0 (np := 212) dX7_ring_211 rfl ?_
                          refine wl_getr (np := 215) dX7_ring_212 rfl fl_X7_7 rfl (by assumption) (by assumption) ?_
                          refine ld_a0 (np := 216) dX7_ring_215 rfl ?_
                          refine ld_i2 (np := 217) dX7_ring_216 rfl ?_
                          refine ciV_1 (np := 220) dX7_ring_217 rfl lk_X7_180 (by assumption) (Nat.le_of_ble_eq_true rfl) (by omega) (Nat.le_refl _) (Nat.le_refl _) (oB2 _) (fun x_217 m_217 h_217 => ?_)
                          obtain ⟨rfl, q_217⟩ := h_217
                          have q_217 := q_217.symm
                          subst q_217
                          refine ld_i7 (np := 222) dX7_ring_220 rfl ?_
                          refine wl_iadd (np := 223) dX7_ring_222 rfl ?_
                          refine ld_a0 (np := 224) dX7_ring_223 rfl ?_
                          refine wl_getr (np := 227) dX7_ring_224 rfl fl_X7_7 rfl (by assumption) (by assumption) ?_
                          refine ld_a0 (np := 228) dX7_ring_227 rfl ?_
                          refine ld_i1 (np := 229) dX7_ring_228 rfl ?_
                          refine ciV_1 (np := 232) dX7_ring_229 rfl lk_X7_180 (by assumption) (Nat.le_of_ble_eq_true rfl) (by omega) (Nat.le_refl _) (Nat.le_refl _) (oA2 _) (fun x_229 m_229 h_229 => ?_)
                          obtain ⟨rfl, q_229⟩ := h_229
                          have q_229 := q_229.symm
                          subst q_229
                          refine ld_i7 (np := 234) dX7_ring_232 rfl ?_
                          refine wl_iadd (np := 235) dX7_ring_234 rfl ?_
                          refine wl_ialoadN (np := 236) dX7_ring_235 rfl (by first | (simp only [nIm, nIa, ← nI_succ]; exact rfl) | exact nI_z | exact nI_o | exact rfl) (by assumption) (by omega) (by first | decide | omega) ?_
                          refine wl_iastoreN (np := 237) dX7_ring_236 rfl (by first | (simp only [nIm, nIa, ← nI_succ]; exact rfl) | exact nI_z | exact nI_o | exact rfl) (by assumption) (by omega) (by first | decide | omega) ?_
                          rw [gI_uAs, uI_uA, ← hF5, upF_n (by omega), ea, hF5]
                          generalize hF6 : upF F5 (ob + k) (gI me 137 (oa + k)) = F6
                          have oA3 : ∀ d', CI d' mX7_outer sh [.ref 136, .int (nI ka)] (uA me 137 F6) (fun x m => x = nI oa ∧ m = uA me 137 F6) := fun d' => c_M_outer2 z0 g1 x1 hoa (by rw [gI_uAs, ← hF6, upF_n (by omega), ← hF5, upF_n (by omega)]; exact sA k (by omega)) (by omega) (by omega)
                          refine ld_a0 (np := 238) dX7_ring_237 rfl ?_
                          refine wl_getr (np := 241) dX7_ring_238 rfl fl_X7_7 rfl (by assumption) (by assumption) ?_
                          refine ld_a0 (np := 242) dX7_ring_241 rfl ?_
                          refine ld_i1 (np := 243) dX7_ring_242 rfl ?_
                          refine ciV_1 (np := 246) dX7_ring_243 rfl lk_X7_180 (by assumption) (Nat.le_of_ble_eq_true rfl) (by omega) (Nat.le_refl _) (Nat.le_refl _) (oA3 _) (fun x_243 m_243 h_243 => ?_)
                          obtain ⟨rfl, q_243⟩ := h_243
                          have q_243 := q_243.symm
                          subst q_243
                          refine ld_i7 (np := 248) dX7_ring_246 rfl ?_
                          refine wl_iadd (np := 249) dX7_ring_248 rfl ?_
                          refine ld_i8 (np := 251) dX7_ring_249 rfl ?_
                          refine wl_iastoreN (np := 252) dX7_ring_251 rfl (by first | (simp only [nIm, nIa, ← nI_succ]; exact rfl) | exact nI_z | exact nI_o | exact rfl) (by assumption) (by omega) (by first | decide | omega) ?_
                          refine inc_7 (np := 255) (v := _ + 1) dX7_ring_252 rfl rfl (by decide) rfl ?_
                          refine wl_goto (tg := 138) dX7_ring_255 rfl ?_
                          rw [uI_uA, ← nI_succ]
                          have hg : upF F6 (oa + k) (gI me 137 (oc + k)) = sw3F (gI me 137) oa ob oc (k + 1) := by
                            rw [← hF6, ← hF5]
                            funext x
                            by_cases hxa : x = oa + k
                            · subst hxa
                              rw [upF_s]
                              unfold sw3F
                              rw [if_pos (by omega)]
                              congr 1
                              omega
                            · rw [upF_n hxa]
                              by_cases hxb : x = ob + k
                              · subst hxb
                                rw [upF_s]
                                unfold sw3F
                                rw [if_neg (by omega), if_pos (by omega)]
                                congr 1
                                omega
                              · rw [upF_n hxb]
                                by_cases hxc : x = oc + k
                                · subst hxc
                                  rw [upF_s]
                                  unfold sw3F
                                  rw [if_neg (by omega), if_neg (by omega), if_pos (by omega)]
                                  congr 1
                                  omega
                                · rw [upF_n hxc]
                                  unfold sw3F
                                  by_cases h1 : oa ≤ x ∧ x < oa + k
                                  · rw [if_pos h1, if_pos (show oa ≤ x ∧ x < oa + (k + 1) by omega)]
                                  · rw [if_neg h1, if_neg (show ¬ (oa ≤ x ∧ x < oa + (k + 1)) by omega)]
                                    by_cases h2 : ob ≤ x ∧ x < ob + k
                                    · rw [if_pos h2, if_pos (show ob ≤ x ∧ x < ob + (k + 1) by omega)]
                                    · rw [if_neg h2, if_neg (show ¬ (ob ≤ x ∧ x < ob + (k + 1)) by omega)]
                                      exact if_iff (by omega)
                          rw [hg]
                          exact ih (k + 1) (by omega) (by omega) _ rfl
                      · exact absurd hc0 c_174
                refine ld_i3 (np := 125) dX7_ring_124 rfl ?_
                refine wl_if_ge (np := 128) (tg := 132) dX7_ring_125 rfl rfl (fun c_125 => ?_) (fun c_125 => ?_)
                · refine ld_i3 (np := 133) dX7_ring_132 rfl ?_
                  refine st_i6 (np := 135) dX7_ring_133 rfl (by decide) rfl ?_
                  refine wl_iconst (np := 136) (v := 0) dX7_ring_135 rfl (rfl) ?_
                  refine st_i7 (np := 138) dX7_ring_136 rfl (by decide) rfl ?_
                  have h0 := key 5 0 (by omega) (by omega) (.float 0) rfl
                  have e0 : sw3F (gI me 137) oa ob oc 0 = gI me 137 := by
                    funext x
                    unfold sw3F
                    rw [if_neg (by omega), if_neg (by omega), if_neg (by omega)]
                  rw [e0, uA_id] at h0
                  exact h0
                · exact absurd hc0 c_125
              · rw [if_pos c_118]
                refine wl_bipush (np := 123) (v := -4) dX7_ring_121 rfl (by decide) ?_
                refine wi_ret dX7_ring_123 rfl (rfl) (Nat.le_refl _) (Nat.le_refl _) ?_
                exact ⟨rfl, GoodM.same hFs hR⟩
            · rw [hrC.2.2.2.1, nI_z, nI_eq (by omega) (by omega)] at c_101
              exact notW (Or.inr (Or.inr c_101)) _
  have k22 : ∀ al, (al = 1 ∧ (a = b ∨ a = c ∨ b = c) ∨ al = 0 ∧ ¬ (a = b ∨ a = c ∨ b = c)) → Wa mX7_ring (0, fun _ => 0) d 0 0 sh.length (PI sh (fun x m => x = (sp_ring S a b c).1 ∧ GoodM sh me m (sp_ring S a b c).2)) 20 [.ref 136, .int a, .int b, .int c, .float 0, .float 0, .float 0, .float 0, .float 0] [.int al] sh me 0 0 := by
    intro al hal
    refine st_i4 (np := 22) dX7_ring_20 rfl (by decide) rfl ?_
    refine ld_a0 (np := 23) dX7_ring_22 rfl ?_
    refine ld_i1 (np := 24) dX7_ring_23 rfl ?_
    refine ciV_1 (np := 27) dX7_ring_24 rfl lk_X7_80 (by assumption) (Nat.le_of_ble_eq_true rfl) (by omega) (Nat.le_refl _) (Nat.le_refl _) (c_M_isOne a z0 v3 hn5 (by omega)) (fun x_24 m_24 h_24 => ?_)
    obtain ⟨h24, q24⟩ := h_24
    have q24 := q24.symm
    subst q24
    have h24 : x_24 = 1 ∧ isPn S.1.1 a ∨ x_24 = 0 ∧ ¬ isPn S.1.1 a := h24
    refine wl_if_eq (np := 30) (tg := 56) dX7_ring_27 rfl rfl (fun c_27 => ?_) (fun c_27 => ?_)
    · exact bad (fun h => or0 h24 c_27 h.1) _
    · refine ld_a0 (np := 31) dX7_ring_30 rfl ?_
      refine ld_i2 (np := 32) dX7_ring_31 rfl ?_
      refine ciV_1 (np := 35) dX7_ring_32 rfl lk_X7_80 (by assumption) (Nat.le_of_ble_eq_true rfl) (by omega) (Nat.le_refl _) (Nat.le_refl _) (c_M_isOne b z0 v3 hn5 (by omega)) (fun x_32 m_32 h_32 => ?_)
      obtain ⟨h32, q32⟩ := h_32
      have q32 := q32.symm
      subst q32
      have h32 : x_32 = 1 ∧ isPn S.1.1 b ∨ x_32 = 0 ∧ ¬ isPn S.1.1 b := h32
      refine wl_if_eq (np := 38) (tg := 56) dX7_ring_35 rfl rfl (fun c_35 => ?_) (fun c_35 => ?_)
      · exact bad (fun h => or0 h32 c_35 h.2.1) _
      · have hpa := or1 h24 c_27
        have hpb := or1 h32 c_35
        have k51 : (c = -1 ∨ isPn S.1.1 c) → Wa mX7_ring (0, fun _ => 0) d 0 0 sh.length (PI sh (fun x m => x = (sp_ring S a b c).1 ∧ GoodM sh me m (sp_ring S a b c).2)) 51 [.ref 136, .int a, .int b, .int c, .int al, .float 0, .float 0, .float 0, .float 0] [] sh me 0 0 := by
          intro hc
          refine ld_i4 (np := 53) dX7_ring_51 rfl ?_
          refine wl_if_eq (np := 56) (tg := 58) dX7_ring_53 rfl rfl (fun c_53 => ?_) (fun c_53 => ?_)
          · have hno : ¬ (a = b ∨ a = c ∨ b = c) := or0 hal c_53
            subst c_53
            exact main hpa hpb (fun q => hno (Or.inl q)) (hc.elim Or.inl (fun q => Or.inr ⟨q, fun q => hno (Or.inr (Or.inl q)), fun q => hno (Or.inr (Or.inr q))⟩))
          · have hyes : a = b ∨ a = c ∨ b = c := or1 hal c_53
            refine bad ?_ _
            rintro ⟨-, -, h3, h4⟩
            rcases hyes with q | q | q
            · exact h3 q
            · rcases h4 with h4 | h4
              · exact pnn hpa (q.trans h4)
              · exact h4.2.1 q
            · rcases h4 with h4 | h4
              · exact pnn hpb (q.trans h4)
              · exact h4.2.2 q
        refine ld_i3 (np := 39) dX7_ring_38 rfl ?_
        refine wl_iconst (np := 40) (v := -1) dX7_ring_39 rfl (rfl) ?_
        refine wl_icmp_eq (np := 43) (tg := 51) dX7_ring_40 rfl rfl (fun c_40 => ?_) (fun c_40 => ?_)
        · exact k51 (Or.inl c_40)
        · refine ld_a0 (np := 44) dX7_ring_43 rfl ?_
          refine ld_i3 (np := 45) dX7_ring_44 rfl ?_
          refine ciV_1 (np := 48) dX7_ring_45 rfl lk_X7_80 (by assumption) (Nat.le_of_ble_eq_true rfl) (by omega) (Nat.le_refl _) (Nat.le_refl _) (c_M_isOne c z0 v3 hn5 (by omega)) (fun x_45 m_45 h_45 => ?_)
          obtain ⟨h45, q45⟩ := h_45
          have q45 := q45.symm
          subst q45
          have h45 : x_45 = 1 ∧ isPn S.1.1 c ∨ x_45 = 0 ∧ ¬ isPn S.1.1 c := h45
          refine wl_if_eq (np := 51) (tg := 56) dX7_ring_48 rfl rfl (fun c_48 => ?_) (fun c_48 => ?_)
          · refine bad ?_ _
            rintro ⟨-, -, -, h4⟩
            rcases h4 with h4 | h4
            · exact c_40 h4
            · exact or0 h45 c_48 h4.1
          · exact k51 (Or.inr (or1 h45 c_48))
  have k15 : (a = b ∨ a = c ∨ b = c) → Wa mX7_ring (0, fun _ => 0) d 0 0 sh.length (PI sh (fun x m => x = (sp_ring S a b c).1 ∧ GoodM sh me m (sp_ring S a b c).2)) 15 [.ref 136, .int a, .int b, .int c, .float 0, .float 0, .float 0, .float 0, .float 0] [] sh me 0 0 := by
    intro h
    refine wl_iconst (np := 16) (v := 1) dX7_ring_15 rfl (rfl) ?_
    refine wl_goto (tg := 20) dX7_ring_16 rfl ?_
    exact k22 1 (Or.inl ⟨rfl, h⟩)
  refine ld_i1 (np := 1) dX7_ring_0 rfl ?_
  refine ld_i2 (np := 2) dX7_ring_1 rfl ?_
  refine wl_icmp_eq (np := 5) (tg := 15) dX7_ring_2 rfl rfl (fun c_2 => ?_) (fun c_2 => ?_)
  · exact k15 (Or.inl c_2)
  · refine ld_i1 (np := 6) dX7_ring_5 rfl ?_
    refine ld_i3 (np := 7) dX7_ring_6 rfl ?_
    refine wl_icmp_eq (np := 10) (tg := 15) dX7_ring_7 rfl rfl (fun c_7 => ?_) (fun c_7 => ?_)
    · exact k15 (Or.inr (Or.inl c_7))
    · refine ld_i2 (np := 11) dX7_ring_10 rfl ?_
      refine ld_i3 (np := 12) dX7_ring_11 rfl ?_
      refine wl_icmp_ne (np := 15) (tg := 19) dX7_ring_12 rfl rfl (fun c_12 => ?_) (fun c_12 => ?_)
      · refine wl_iconst (np := 20) (v := 0) dX7_ring_19 rfl (rfl) ?_
        exact k22 0 (Or.inr ⟨rfl, fun h => h.elim c_2 (fun h => h.elim c_7 c_12)⟩)
      · exact k15 (Or.inr (Or.inr c_12))
end M16
