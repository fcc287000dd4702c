theorem comp_len {off : Int32} : ∀ k m, ∀ o ∈ comp off k m, o.length = k
  | 0, m, o, ho => by
    unfold comp at ho
    rw [List.mem_singleton.mp ho]
    rfl
  | k + 1, m, o, ho => by
    unfold comp at ho
    obtain ⟨e, he, ho2⟩ := List.mem_flatMap.mp ho
    obtain ⟨o', ho', rfl⟩ := List.mem_map.mp ho2
    rw [List.length_cons, comp_len k _ o' ho']
theorem foldB_len {n : Nat} {res : List Nat → Option (Nat × Int32)} : ∀ (l : List (List Nat)) (B : Bpl), (∀ o ∈ l, o.length = n) → (B.1 = 361 ∨ B.2.2.length = n) → ((foldB [] res B l).1 = 361 ∨ (foldB [] res B l).2.2.length = n)
  | [], B, _, hB => hB
  | o :: l, B, hl, hB => by
    unfold foldB
    rw [List.foldl_cons]
    refine foldB_len l _ (fun o' ho' => hl o' (List.mem_cons_of_mem _ ho')) ?_
    unfold stepB
    split
    · exact hB
    · unfold keepB
      split
      · exact Or.inr (hl o List.mem_cons_self)
      · exact hB
theorem plan_len (P : Prs) (off : Int32) : (planS P off).1 = 361 ∨ (planS P off).2.2.length = P.2.1.length := foldB_len _ _ (comp_len _ _) (Or.inl rfl)
theorem setLast_setLast (P : Prs) (a b : Coat) : setLast (setLast P a) b = setLast P b := by
  unfold setLast
  dsimp only
  rw [List.length_set, List.set_set]
theorem lastC_setLast {P : Prs} (a : Coat) (h : 0 < P.2.1.length) : lastC (setLast P a) = a := by
  unfold setLast lastC
  dsimp only
  rw [List.length_set, List.getElem?_set, if_pos rfl, if_pos (by omega)]
  rfl
theorem setLast_len (P : Prs) (a : Coat) : (setLast P a).2.1.length = P.2.1.length := by
  unfold setLast
  exact List.length_set
section DC6
variable {sh : List Shp} {me : Mem} {d : Nat} {S : St}
theorem GoodC.ps {m : Mem} {ps : List Prs} (hF : FixC sh me) (hR : RepC me S) (hl : ps.length = S.1.1.length) (hO : Onl me m 6 36) (hP : RepPs m 1 ps) : GoodC sh me m (setPs S ps) := by
  refine GoodC.w hF hR (RfK.of hO.1) (fun a h1 h2 => hO.2 a (by omega)) (hR.1.g4 hP ?_ (fun b hb => hO.g (by omega)) (fun a b h1 h2 => hO.g (by omega)))
  rw [hl]
  exact (hO.g (by omega)).trans hR.1.2.1
set_option maxHeartbeats 4000000 in
set_option maxRecDepth 100000 in
theorem c_dc_ring (a b c : Int32) (hF : FixC sh me) (hR : RepC me S) (hlen : lenW S.1) (hd : 3 ≤ d) : CI d mX6_ring sh [.ref 0, .int a, .int b, .int c] me (fun x m => x = (sp_ring S a b c).1 ∧ GoodC sh me m (sp_ring S a b c).2) := by
  have hFs := hF
  obtain ⟨z0, ⟨g0, g1, g2, g3, g4, g5, g6, g7⟩, ⟨w1, w2, w3, pp1, l1, b1, t1⟩, zs, zss⟩ := hF
  have hw1 := w1
  obtain ⟨s0, s1, s2, s3, s4, r0, r1, r2, r3, hP⟩ := w1
  have hn5 := hR.1.1.1
  have hn := hR.1.2.1
  refine CI.mk (L := [.ref 0, .int a, .int b, .int c, .float 0, .float 0, .float 0, .float 0, .float 0]) (by decide) (Nat.le_of_ble_eq_true rfl) rfl ?_
  have bad : ∀ pc, pc = 27 ∨ pc = 67 → ¬ (isPn S.1.1 a ∧ isPn S.1.1 b ∧ ¬ a = b ∧ (c = -1 ∨ (isPn S.1.1 c ∧ ¬ a = c ∧ ¬ b = c))) → ∀ L4, Wa mX6_ring (0, fun _ => 0) d 0 0 sh.length (PI sh (fun x m => x = (sp_ring S a b c).1 ∧ GoodC sh me m (sp_ring S a b c).2)) pc L4 [] sh me 0 0 := by
    intro pc hpc hb L4
    unfold sp_ring
    rw [cif_f hb]
    rcases hpc with rfl | rfl
    · refine wl_iconst (np := 28) (v := -1) dX6_ring_27 rfl (rfl) ?_
      refine wi_ret dX6_ring_28 rfl (rfl) (Nat.le_refl _) (Nat.le_refl _) ?_
      exact ⟨rfl, GoodC.same hFs hR⟩
    · refine wl_iconst (np := 68) (v := -1) dX6_ring_67 rfl (rfl) ?_
      refine wi_ret dX6_ring_68 rfl (rfl) (Nat.le_refl _) (Nat.le_refl _) ?_
      exact ⟨rfl, GoodC.same hFs hR⟩
  first | refine ld_a0 (np := 1) dX6_ring_0 rfl ?_ | refine ldN_a0 (np := 1) dX6_ring_0 rfl ?_ | refine ldS_a0 (np := 1) dX6_ring_0 rfl ?_
  refine wl_getr (np := 4) dX6_ring_1 rfl fl_X6_10 rfl (by assumption) (by first | assumption | (rw [nI_clamp (by omega)]; assumption)) ?_
  refine ld_i1 (np := 5) dX6_ring_4 rfl ?_
  refine ciV_1 (np := 8) dX6_ring_5 rfl lk_X6_77 (by assumption) (Nat.le_of_ble_eq_true rfl) (by omega) (Nat.le_refl _) (Nat.le_refl _) (c_hasPerson a hw1 hR.1 (by omega)) (fun x_5 m_5 h_5 => ?_)
  obtain ⟨h5, q5⟩ := h_5
  have q5 := q5.symm
  subst q5
  refine wl_if_eq (np := 11) (tg := 27) dX6_ring_8 rfl rfl (fun c_8 => ?_) (fun c_8 => ?_)
  · exact bad _ (Or.inl rfl) (fun h => or0 h5 c_8 h.1) _
  · first | refine ld_a0 (np := 12) dX6_ring_11 rfl ?_ | refine ldN_a0 (np := 12) dX6_ring_11 rfl ?_ | refine ldS_a0 (np := 12) dX6_ring_11 rfl ?_
    refine wl_getr (np := 15) dX6_ring_12 rfl fl_X6_10 rfl (by assumption) (by first | assumption | (rw [nI_clamp (by omega)]; assumption)) ?_
    refine ld_i2 (np := 16) dX6_ring_15 rfl ?_
    refine ciV_1 (np := 19) dX6_ring_16 rfl lk_X6_77 (by assumption) (Nat.le_of_ble_eq_true rfl) (by omega) (Nat.le_refl _) (Nat.le_refl _) (c_hasPerson b hw1 hR.1 (by omega)) (fun x_16 m_16 h_16 => ?_)
    obtain ⟨h16, q16⟩ := h_16
    have q16 := q16.symm
    subst q16
    refine wl_if_eq (np := 22) (tg := 27) dX6_ring_19 rfl rfl (fun c_19 => ?_) (fun c_19 => ?_)
    · exact bad _ (Or.inl rfl) (fun h => or0 h16 c_19 h.2.1) _
    · refine ld_i1 (np := 23) dX6_ring_22 rfl ?_
      refine ld_i2 (np := 24) dX6_ring_23 rfl ?_
      refine wl_icmp_ne (np := 27) (tg := 29) dX6_ring_24 rfl rfl (fun c_24 => ?_) (fun c_24 => ?_)
      · have hpa := or1 h5 c_8
        have hpb := or1 h16 c_19
        obtain ⟨ka, hka, rfl⟩ := or1 h5 c_8
        obtain ⟨kb, hkb, rfl⟩ := or1 h16 c_19
        have hab : ka ≠ kb := fun q => c_24 (by rw [q])
        obtain ⟨PA, hPA⟩ : ∃ P, S.1.1[ka]? = some P := ⟨_, List.getElem?_eq_getElem hka⟩
        obtain ⟨PB, hPB⟩ : ∃ P, S.1.1[kb]? = some P := ⟨_, List.getElem?_eq_getElem hkb⟩
        have hrA := hR.1.1.2 ka PA hPA
        have hrB := hR.1.1.2 kb PB hPB
        have a8 := hrA.2.2.2.2.2.1
        have b8 := hrB.2.2.2.2.2.1
        obtain ⟨ga, gb⟩ := hP ka (by omega)
        obtain ⟨gc, gd⟩ := hP kb (by omega)
        have sA := gb.1
        have sB := gd.1
        have lA := hlen PA (mem_of_get hPA)
        have lB := hlen PB (mem_of_get hPB)
        refine ld_i3 (np := 30) dX6_ring_29 rfl ?_
        refine wl_iconst (np := 31) (v := -1) dX6_ring_30 rfl (rfl) ?_
        refine wl_icmp_eq (np := 34) (tg := 38) dX6_ring_31 rfl rfl (fun c_31 => ?_) (fun c_31 => ?_)
        · subst c_31
          refine wl_iconst (np := 39) (v := 0) dX6_ring_38 rfl (rfl) ?_
          refine st_i4 (np := 41) dX6_ring_39 rfl (by decide) rfl ?_
          refine ld_i4 (np := 43) dX6_ring_41 rfl ?_
          refine wl_if_eq (np := 46) (tg := 69) dX6_ring_43 rfl rfl (fun c_43 => ?_) (fun c_43 => ?_)
          · have hgood : isPn S.1.1 (nI ka) ∧ isPn S.1.1 (nI kb) ∧ ¬ nI ka = nI kb ∧ ((-1 : Int32) = -1 ∨ (isPn S.1.1 (-1) ∧ ¬ nI ka = -1 ∧ ¬ nI kb = -1)) := ⟨hpa, hpb, c_24, Or.inl rfl⟩
            unfold sp_ring
            rw [cif_t hgood, if_pos rfl]
            unfold ring2
            rw [getP_nI hPA (by omega), getP_nI hPB (by omega), nI_clamp (by omega), nI_clamp (by omega)]
            have notW : (PA.2.1.length = 0 ∨ PB.2.1.length = 0) → ∀ L4, Wa mX6_ring (0, fun _ => 0) d 0 0 sh.length (PI sh (fun x m => x = (if PA.2.1.length = 0 ∨ PB.2.1.length = 0 then (-2, S) else if sav2 PA PB = 0 then (-4, S) else (sav2 PA PB, setPs S ((S.1.1.set ka (setLast PA (lastC PB))).set kb (setLast PB (lastC PA))))).1 ∧ GoodC sh me m (if PA.2.1.length = 0 ∨ PB.2.1.length = 0 then (-2, S) else if sav2 PA PB = 0 then (-4, S) else (sav2 PA PB, setPs S ((S.1.1.set ka (setLast PA (lastC PB))).set kb (setLast PB (lastC PA))))).2)) 140 L4 [] sh me 0 0 := by
              intro hz L4
              rw [if_pos hz]
              refine wl_bipush (np := 142) (v := -2) dX6_ring_140 rfl (by decide) ?_
              refine wi_ret dX6_ring_142 rfl (rfl) (Nat.le_refl _) (Nat.le_refl _) ?_
              exact ⟨rfl, GoodC.same hFs hR⟩
            first | refine ld_a0 (np := 70) dX6_ring_69 rfl ?_ | refine ldN_a0 (np := 70) dX6_ring_69 rfl ?_ | refine ldS_a0 (np := 70) dX6_ring_69 rfl ?_
            refine wl_getr (np := 73) dX6_ring_70 rfl fl_X6_10 rfl (by assumption) (by first | assumption | (rw [nI_clamp (by omega)]; assumption)) ?_
            refine wl_getr (np := 76) dX6_ring_73 rfl fl_X6_69 rfl (by assumption) (by first | assumption | (rw [nI_clamp (by omega)]; assumption)) ?_
            refine ld_i1 (np := 77) dX6_ring_76 rfl ?_
            refine wl_aaload (np := 78) dX6_ring_77 rfl (by assumption) (by decide) (vp_in_nI (by omega) (by decide)) (by first | assumption | (rw [nI_clamp (by omega)]; assumption)) ?_
            first | refine st_a5 (np := 80) dX6_ring_78 rfl (by decide) rfl ?_ | refine stN_a5 (np := 80) dX6_ring_78 rfl (by decide) rfl ?_
            first | refine ld_a0 (np := 81) dX6_ring_80 rfl ?_ | refine ldN_a0 (np := 81) dX6_ring_80 rfl ?_ | refine ldS_a0 (np := 81) dX6_ring_80 rfl ?_
            refine wl_getr (np := 84) dX6_ring_81 rfl fl_X6_10 rfl (by assumption) (by first | assumption | (rw [nI_clamp (by omega)]; assumption)) ?_
            refine wl_getr (np := 87) dX6_ring_84 rfl fl_X6_69 rfl (by assumption) (by first | assumption | (rw [nI_clamp (by omega)]; assumption)) ?_
            refine ld_i2 (np := 88) dX6_ring_87 rfl ?_
            refine wl_aaload (np := 89) dX6_ring_88 rfl (by assumption) (by decide) (vp_in_nI (by omega) (by decide)) (by first | assumption | (rw [nI_clamp (by omega)]; assumption)) ?_
            first | refine st_a6 (np := 91) dX6_ring_89 rfl (by decide) rfl ?_ | refine stN_a6 (np := 91) dX6_ring_89 rfl (by decide) rfl ?_
            refine ld_i4 (np := 93) dX6_ring_91 rfl ?_
            refine wl_if_eq (np := 96) (tg := 108) dX6_ring_93 rfl rfl (fun c_93 => ?_) (fun c_93 => ?_)
            · refine wl_null (np := 109) dX6_ring_108 rfl ?_
              first | refine st_a7 (np := 111) dX6_ring_109 rfl (by decide) rfl ?_ | refine stN_a7 (np := 111) dX6_ring_109 rfl (by decide) rfl ?_
              first | refine ld_a5 (np := 113) dX6_ring_111 rfl ?_ | refine ldN_a5 (np := 113) dX6_ring_111 rfl ?_ | refine ldS_a5 (np := 113) dX6_ring_111 rfl ?_
              refine wl_geti (np := 116) dX6_ring_113 rfl fl_X6_90 (by decide) (by assumption) ?_
              refine wl_if_eq (np := 119) (tg := 140) dX6_ring_116 rfl rfl (fun c_116 => ?_) (fun c_116 => ?_)
              · rw [hrA.2.2.2.2.1, show (0 : Int32) = nI 0 from rfl, nI_eq (by omega) (by omega)] at c_116
                exact notW (Or.inl c_116) _
              · rw [hrA.2.2.2.2.1, show (0 : Int32) = nI 0 from rfl, nI_eq (by omega) (by omega)] at c_116
                first | refine ld_a6 (np := 121) dX6_ring_119 rfl ?_ | refine ldN_a6 (np := 121) dX6_ring_119 rfl ?_ | refine ldS_a6 (np := 121) dX6_ring_119 rfl ?_
                refine wl_geti (np := 124) dX6_ring_121 rfl fl_X6_90 (by decide) (by assumption) ?_
                refine wl_if_eq (np := 127) (tg := 140) dX6_ring_124 rfl rfl (fun c_124 => ?_) (fun c_124 => ?_)
                · rw [hrB.2.2.2.2.1, show (0 : Int32) = nI 0 from rfl, nI_eq (by omega) (by omega)] at c_124
                  exact notW (Or.inr c_124) _
                · rw [hrB.2.2.2.2.1, show (0 : Int32) = nI 0 from rfl, nI_eq (by omega) (by omega)] at c_124
                  rw [if_neg (by omega)]
                  first | refine ld_a7 (np := 129) dX6_ring_127 rfl ?_ | refine ldN_a7 (np := 129) dX6_ring_127 rfl ?_ | refine ldS_a7 (np := 129) dX6_ring_127 rfl ?_
                  refine wl_ifnullN (tg := 143) dX6_ring_129 rfl ?_
                  first | refine ld_a5 (np := 145) dX6_ring_143 rfl ?_ | refine ldN_a5 (np := 145) dX6_ring_143 rfl ?_ | refine ldS_a5 (np := 145) dX6_ring_143 rfl ?_
                  first | refine ld_a6 (np := 147) dX6_ring_145 rfl ?_ | refine ldN_a6 (np := 147) dX6_ring_145 rfl ?_ | refine ldS_a6 (np := 147) dX6_ring_145 rfl ?_
                  first | refine ld_a7 (np := 149) dX6_ring_147 rfl ?_ | refine ldN_a7 (np := 149) dX6_ring_147 rfl ?_ | refine ldS_a7 (np := 149) dX6_ring_147 rfl ?_
                  refine ciS_3 (np := 152) dX6_ring_149 rfl lk_X6_200 (Nat.le_of_ble_eq_true rfl) (by omega) (Nat.le_refl _) (Nat.le_refl _) (c_savedBy2 gb gd hrA hrB lA lB (by omega)) (fun x_149 m_149 h_149 => ?_)
                  obtain ⟨rfl, q_149⟩ := h_149
                  have q_149 := q_149.symm
                  subst q_149
                  refine st_i8 (np := 154) dX6_ring_152 rfl (by decide) rfl ?_
                  refine ld_i8 (np := 156) dX6_ring_154 rfl ?_
                  refine wl_if_ne (np := 159) (tg := 162) dX6_ring_156 rfl rfl (fun c_156 => ?_) (fun c_156 => ?_)
                  · rw [if_neg c_156]
                    first | refine ld_a5 (np := 164) dX6_ring_162 rfl ?_ | refine ldN_a5 (np := 164) dX6_ring_162 rfl ?_ | refine ldS_a5 (np := 164) dX6_ring_162 rfl ?_
                    first | refine ld_a6 (np := 166) dX6_ring_164 rfl ?_ | refine ldN_a6 (np := 166) dX6_ring_164 rfl ?_ | refine ldS_a6 (np := 166) dX6_ring_164 rfl ?_
                    refine cvV_1 (np := 169) dX6_ring_166 rfl lk_X6_204 (by assumption) (Nat.le_of_ble_eq_true rfl) (by omega) (Nat.le_refl _) (Nat.le_refl _) (c_swapOutermost gb gd hrA.2.2.2.2.1 hrB.2.2.2.2.1 a8 b8 (by omega) (by omega) (by omega) (by omega)) (fun m_166 h_166 => ?_)
                    have q_166 := h_166.symm
                    subst q_166
                    first | refine ld_a7 (np := 171) dX6_ring_169 rfl ?_ | refine ldN_a7 (np := 171) dX6_ring_169 rfl ?_ | refine ldS_a7 (np := 171) dX6_ring_169 rfl ?_
                    refine wl_ifnullN (tg := 181) dX6_ring_171 rfl ?_
                    refine ld_i8 (np := 183) dX6_ring_181 rfl ?_
                    refine wi_ret dX6_ring_183 rfl (rfl) (Nat.le_refl _) (Nat.le_refl _) ?_
                    refine ⟨rfl, ?_⟩
                    obtain ⟨y1, y2⟩ := rep_swap hrA hrB (by omega) (by omega) (by omega)
                    have hso := swap_out (me := me) (q := 1 + 5 + 6 * ka) (q2 := 1 + 5 + 6 * kb) (i := PA.2.1.length - 1) (j := PB.2.1.length - 1)
                    refine GoodC.ps hFs hR (by simp) ⟨hso.1, fun x hx => hso.2 x (by omega) (by omega)⟩ ⟨by simp; omega, fun p P hp => ?_⟩
                    rw [List.getElem?_set] at hp
                    by_cases hpb : kb = p
                    · subst hpb
                      rw [if_pos rfl, if_pos (by simp; omega)] at hp
                      cases hp
                      exact y2
                    · rw [if_neg hpb, List.getElem?_set] at hp
                      by_cases hpa : ka = p
                      · subst hpa
                        rw [if_pos rfl, if_pos (by omega)] at hp
                        cases hp
                        exact y1
                      · rw [if_neg hpa] at hp
                        exact (hR.1.1.2 p P hp).fr (fun x h1 h2 => hso.2 x (by omega) (by omega))
                  · rw [if_pos c_156]
                    refine wl_bipush (np := 161) (v := -4) dX6_ring_159 rfl (by decide) ?_
                    refine wi_ret dX6_ring_161 rfl (rfl) (Nat.le_refl _) (Nat.le_refl _) ?_
                    exact ⟨rfl, GoodC.same hFs hR⟩
            · exact absurd rfl c_93
          · exact absurd rfl c_43
        · skip
          refine wl_iconst (np := 35) (v := 1) dX6_ring_34 rfl (rfl) ?_
          refine wl_goto (tg := 39) dX6_ring_35 rfl ?_
          refine st_i4 (np := 41) dX6_ring_39 rfl (by decide) rfl ?_
          refine ld_i4 (np := 43) dX6_ring_41 rfl ?_
          refine wl_if_eq (np := 46) (tg := 69) dX6_ring_43 rfl rfl (fun c_43 => ?_) (fun c_43 => ?_)
          · exact absurd c_43 (by decide)
          · first | refine ld_a0 (np := 47) dX6_ring_46 rfl ?_ | refine ldN_a0 (np := 47) dX6_ring_46 rfl ?_ | refine ldS_a0 (np := 47) dX6_ring_46 rfl ?_
            refine wl_getr (np := 50) dX6_ring_47 rfl fl_X6_10 rfl (by assumption) (by first | assumption | (rw [nI_clamp (by omega)]; assumption)) ?_
            refine ld_i3 (np := 51) dX6_ring_50 rfl ?_
            refine ciV_1 (np := 54) dX6_ring_51 rfl lk_X6_77 (by assumption) (Nat.le_of_ble_eq_true rfl) (by omega) (Nat.le_refl _) (Nat.le_refl _) (c_hasPerson c hw1 hR.1 (by omega)) (fun x_51 m_51 h_51 => ?_)
            obtain ⟨h51, q51⟩ := h_51
            have q51 := q51.symm
            subst q51
            refine wl_if_eq (np := 57) (tg := 67) dX6_ring_54 rfl rfl (fun c_54 => ?_) (fun c_54 => ?_)
            · exact bad _ (Or.inr rfl) (fun h => h.2.2.2.elim (fun q => c_31 q) (fun q => or0 h51 c_54 q.1)) _
            · refine ld_i1 (np := 58) dX6_ring_57 rfl ?_
              refine ld_i3 (np := 59) dX6_ring_58 rfl ?_
              refine wl_icmp_eq (np := 62) (tg := 67) dX6_ring_59 rfl rfl (fun c_59 => ?_) (fun c_59 => ?_)
              · exact bad _ (Or.inr rfl) (fun h => h.2.2.2.elim (fun q => c_31 q) (fun q => q.2.1 c_59)) _
              · refine ld_i2 (np := 63) dX6_ring_62 rfl ?_
                refine ld_i3 (np := 64) dX6_ring_63 rfl ?_
                refine wl_icmp_ne (np := 67) (tg := 69) dX6_ring_64 rfl rfl (fun c_64 => ?_) (fun c_64 => ?_)
                · have hpc := or1 h51 c_54
                  obtain ⟨kc, hkc, rfl⟩ := or1 h51 c_54
                  have hac : ka ≠ kc := fun q => c_59 (by rw [q])
                  have hbc : kb ≠ kc := fun q => c_64 (by rw [q])
                  obtain ⟨PC, hPC⟩ : ∃ P, S.1.1[kc]? = some P := ⟨_, List.getElem?_eq_getElem hkc⟩
                  have hrC := hR.1.1.2 kc PC hPC
                  have c8 := hrC.2.2.2.2.2.1
                  obtain ⟨ge, gf⟩ := hP kc (by omega)
                  have sC := gf.1
                  have lC := hlen PC (mem_of_get hPC)
                  have hgood : isPn S.1.1 (nI ka) ∧ isPn S.1.1 (nI kb) ∧ ¬ nI ka = nI kb ∧ (nI kc = -1 ∨ (isPn S.1.1 (nI kc) ∧ ¬ nI ka = nI kc ∧ ¬ nI kb = nI kc)) := ⟨hpa, hpb, c_24, Or.inr ⟨hpc, c_59, c_64⟩⟩
                  unfold sp_ring
                  rw [cif_t hgood, if_neg c_31]
                  unfold ring3
                  rw [getP_nI hPA (by omega), getP_nI hPB (by omega), getP_nI hPC (by omega), nI_clamp (by omega), nI_clamp (by omega), nI_clamp (by omega)]
                  have notW : (PA.2.1.length = 0 ∨ PB.2.1.length = 0 ∨ PC.2.1.length = 0) → ∀ L4, Wa mX6_ring (0, fun _ => 0) d 0 0 sh.length (PI sh (fun x m => x = (if PA.2.1.length = 0 ∨ PB.2.1.length = 0 ∨ PC.2.1.length = 0 then (-2, S) else if sav3 PA PB PC = 0 then (-4, S) else (sav3 PA PB PC, setPs S (((S.1.1.set ka (setLast PA (lastC PC))).set kb (setLast PB (lastC PA))).set kc (setLast PC (lastC PB))))).1 ∧ GoodC sh me m (if PA.2.1.length = 0 ∨ PB.2.1.length = 0 ∨ PC.2.1.length = 0 then (-2, S) else if sav3 PA PB PC = 0 then (-4, S) else (sav3 PA PB PC, setPs S (((S.1.1.set ka (setLast PA (lastC PC))).set kb (setLast PB (lastC PA))).set kc (setLast PC (lastC PB))))).2)) 140 L4 [] sh me 0 0 := by
                    intro hz L4
                    rw [if_pos hz]
                    refine wl_bipush (np := 142) (v := -2) dX6_ring_140 rfl (by decide) ?_
                    refine wi_ret dX6_ring_142 rfl (rfl) (Nat.le_refl _) (Nat.le_refl _) ?_
                    exact ⟨rfl, GoodC.same hFs hR⟩
                  first | refine ld_a0 (np := 70) dX6_ring_69 rfl ?_ | refine ldN_a0 (np := 70) dX6_ring_69 rfl ?_ | refine ldS_a0 (np := 70) dX6_ring_69 rfl ?_
                  refine wl_getr (np := 73) dX6_ring_70 rfl fl_X6_10 rfl (by assumption) (by first | assumption | (rw [nI_clamp (by omega)]; assumption)) ?_
                  refine wl_getr (np := 76) dX6_ring_73 rfl fl_X6_69 rfl (by assumption) (by first | assumption | (rw [nI_clamp (by omega)]; assumption)) ?_
                  refine ld_i1 (np := 77) dX6_ring_76 rfl ?_
                  refine wl_aaload (np := 78) dX6_ring_77 rfl (by assumption) (by decide) (vp_in_nI (by omega) (by decide)) (by first | assumption | (rw [nI_clamp (by omega)]; assumption)) ?_
                  first | refine st_a5 (np := 80) dX6_ring_78 rfl (by decide) rfl ?_ | refine stN_a5 (np := 80) dX6_ring_78 rfl (by decide) rfl ?_
                  first | refine ld_a0 (np := 81) dX6_ring_80 rfl ?_ | refine ldN_a0 (np := 81) dX6_ring_80 rfl ?_ | refine ldS_a0 (np := 81) dX6_ring_80 rfl ?_
                  refine wl_getr (np := 84) dX6_ring_81 rfl fl_X6_10 rfl (by assumption) (by first | assumption | (rw [nI_clamp (by omega)]; assumption)) ?_
                  refine wl_getr (np := 87) dX6_ring_84 rfl fl_X6_69 rfl (by assumption) (by first | assumption | (rw [nI_clamp (by omega)]; assumption)) ?_
                  refine ld_i2 (np := 88) dX6_ring_87 rfl ?_
                  refine wl_aaload (np := 89) dX6_ring_88 rfl (by assumption) (by decide) (vp_in_nI (by omega) (by decide)) (by first | assumption | (rw [nI_clamp (by omega)]; assumption)) ?_
                  first | refine st_a6 (np := 91) dX6_ring_89 rfl (by decide) rfl ?_ | refine stN_a6 (np := 91) dX6_ring_89 rfl (by decide) rfl ?_
                  refine ld_i4 (np := 93) dX6_ring_91 rfl ?_
                  refine wl_if_eq (np := 96) (tg := 108) dX6_ring_93 rfl rfl (fun c_93 => ?_) (fun c_93 => ?_)
                  · exact absurd c_93 (by decide)
                  · first | refine ld_a0 (np := 97) dX6_ring_96 rfl ?_ | refine ldN_a0 (np := 97) dX6_ring_96 rfl ?_ | refine ldS_a0 (np := 97) dX6_ring_96 rfl ?_
                    refine wl_getr (np := 100) dX6_ring_97 rfl fl_X6_10 rfl (by assumption) (by first | assumption | (rw [nI_clamp (by omega)]; assumption)) ?_
                    refine wl_getr (np := 103) dX6_ring_100 rfl fl_X6_69 rfl (by assumption) (by first | assumption | (rw [nI_clamp (by omega)]; assumption)) ?_
                    refine ld_i3 (np := 104) dX6_ring_103 rfl ?_
                    refine wl_aaload (np := 105) dX6_ring_104 rfl (by assumption) (by decide) (vp_in_nI (by omega) (by decide)) (by first | assumption | (rw [nI_clamp (by omega)]; assumption)) ?_
                    refine wl_goto (tg := 109) dX6_ring_105 rfl ?_
                    first | refine st_a7 (np := 111) dX6_ring_109 rfl (by decide) rfl ?_ | refine stN_a7 (np := 111) dX6_ring_109 rfl (by decide) rfl ?_
                    first | refine ld_a5 (np := 113) dX6_ring_111 rfl ?_ | refine ldN_a5 (np := 113) dX6_ring_111 rfl ?_ | refine ldS_a5 (np := 113) dX6_ring_111 rfl ?_
                    refine wl_geti (np := 116) dX6_ring_113 rfl fl_X6_90 (by decide) (by assumption) ?_
                    refine wl_if_eq (np := 119) (tg := 140) dX6_ring_116 rfl rfl (fun c_116 => ?_) (fun c_116 => ?_)
                    · rw [hrA.2.2.2.2.1, show (0 : Int32) = nI 0 from rfl, nI_eq (by omega) (by omega)] at c_116
                      exact notW (Or.inl c_116) _
                    · rw [hrA.2.2.2.2.1, show (0 : Int32) = nI 0 from rfl, nI_eq (by omega) (by omega)] at c_116
                      first | refine ld_a6 (np := 121) dX6_ring_119 rfl ?_ | refine ldN_a6 (np := 121) dX6_ring_119 rfl ?_ | refine ldS_a6 (np := 121) dX6_ring_119 rfl ?_
                      refine wl_geti (np := 124) dX6_ring_121 rfl fl_X6_90 (by decide) (by assumption) ?_
                      refine wl_if_eq (np := 127) (tg := 140) dX6_ring_124 rfl rfl (fun c_124 => ?_) (fun c_124 => ?_)
                      · rw [hrB.2.2.2.2.1, show (0 : Int32) = nI 0 from rfl, nI_eq (by omega) (by omega)] at c_124
                        exact notW (Or.inr (Or.inl c_124)) _
                      · rw [hrB.2.2.2.2.1, show (0 : Int32) = nI 0 from rfl, nI_eq (by omega) (by omega)] at c_124
                        first | refine ld_a7 (np := 129) dX6_ring_127 rfl ?_ | refine ldN_a7 (np := 129) dX6_ring_127 rfl ?_ | refine ldS_a7 (np := 129) dX6_ring_127 rfl ?_
                        refine wl_ifnull (np := 132) dX6_ring_129 rfl ?_
                        first | refine ld_a7 (np := 134) dX6_ring_132 rfl ?_ | refine ldN_a7 (np := 134) dX6_ring_132 rfl ?_ | refine ldS_a7 (np := 134) dX6_ring_132 rfl ?_
                        refine wl_geti (np := 137) dX6_ring_134 rfl fl_X6_90 (by decide) (by assumption) ?_
                        refine wl_if_ne (np := 140) (tg := 143) dX6_ring_137 rfl rfl (fun c_137 => ?_) (fun c_137 => ?_)
                        · rw [hrC.2.2.2.2.1, show (0 : Int32) = nI 0 from rfl, nI_eq (by omega) (by omega)] at c_137
                          rw [if_neg (by omega)]
                          first | refine ld_a5 (np := 145) dX6_ring_143 rfl ?_ | refine ldN_a5 (np := 145) dX6_ring_143 rfl ?_ | refine ldS_a5 (np := 145) dX6_ring_143 rfl ?_
                          first | refine ld_a6 (np := 147) dX6_ring_145 rfl ?_ | refine ldN_a6 (np := 147) dX6_ring_145 rfl ?_ | refine ldS_a6 (np := 147) dX6_ring_145 rfl ?_
                          first | refine ld_a7 (np := 149) dX6_ring_147 rfl ?_ | refine ldN_a7 (np := 149) dX6_ring_147 rfl ?_ | refine ldS_a7 (np := 149) dX6_ring_147 rfl ?_
                          refine ciS_3 (np := 152) dX6_ring_149 rfl lk_X6_200 (Nat.le_of_ble_eq_true rfl) (by omega) (Nat.le_refl _) (Nat.le_refl _) (c_savedBy3 gb gd gf hrA hrB hrC lA lB lC (by omega)) (fun x_149 m_149 h_149 => ?_)
                          obtain ⟨rfl, q_149⟩ := h_149
                          have q_149 := q_149.symm
                          subst q_149
                          refine st_i8 (np := 154) dX6_ring_152 rfl (by decide) rfl ?_
                          refine ld_i8 (np := 156) dX6_ring_154 rfl ?_
                          refine wl_if_ne (np := 159) (tg := 162) dX6_ring_156 rfl rfl (fun c_156 => ?_) (fun c_156 => ?_)
                          · rw [if_neg c_156]
                            first | refine ld_a5 (np := 164) dX6_ring_162 rfl ?_ | refine ldN_a5 (np := 164) dX6_ring_162 rfl ?_ | refine ldS_a5 (np := 164) dX6_ring_162 rfl ?_
                            first | refine ld_a6 (np := 166) dX6_ring_164 rfl ?_ | refine ldN_a6 (np := 166) dX6_ring_164 rfl ?_ | refine ldS_a6 (np := 166) dX6_ring_164 rfl ?_
                            refine cvV_1 (np := 169) dX6_ring_166 rfl lk_X6_204 (by assumption) (Nat.le_of_ble_eq_true rfl) (by omega) (Nat.le_refl _) (Nat.le_refl _) (c_swapOutermost gb gd hrA.2.2.2.2.1 hrB.2.2.2.2.1 a8 b8 (by omega) (by omega) (by omega) (by omega)) (fun m_166 h_166 => ?_)
                            obtain ⟨y1, y2⟩ := rep_swap hrA hrB (by omega) (by omega) (by omega)
                            have hso := swap_out (me := me) (q := 1 + 5 + 6 * ka) (q2 := 1 + 5 + 6 * kb) (i := PA.2.1.length - 1) (j := PB.2.1.length - 1)
                            rw [← h_166] at y1 y2 hso
                            clear h_166
                            obtain ⟨I1, R1⟩ := m_166
                            obtain rfl : R1 = me.2 := hso.1
                            have y3 : RepP (I1, me.2) (1 + 5 + 6 * kc) PC := hrC.fr (fun x h1 h2 => hso.2 x (by omega) (by omega))
                            have lA1 : (setLast PA (lastC PB)).2.1.length = PA.2.1.length := setLast_len _ _
                            first | refine ld_a7 (np := 171) dX6_ring_169 rfl ?_ | refine ldN_a7 (np := 171) dX6_ring_169 rfl ?_ | refine ldS_a7 (np := 171) dX6_ring_169 rfl ?_
                            refine wl_ifnull (np := 174) dX6_ring_171 rfl ?_
                            first | refine ld_a5 (np := 176) dX6_ring_174 rfl ?_ | refine ldN_a5 (np := 176) dX6_ring_174 rfl ?_ | refine ldS_a5 (np := 176) dX6_ring_174 rfl ?_
                            first | refine ld_a7 (np := 178) dX6_ring_176 rfl ?_ | refine ldN_a7 (np := 178) dX6_ring_176 rfl ?_ | refine ldS_a7 (np := 178) dX6_ring_176 rfl ?_
                            refine cvV_1 (np := 181) dX6_ring_178 rfl lk_X6_204 (by assumption) (Nat.le_of_ble_eq_true rfl) (by omega) (Nat.le_refl _) (Nat.le_refl _) (c_swapOutermost (gb.of rfl) (gf.of rfl) (y1.2.2.2.2.1.trans (by rw [lA1])) y3.2.2.2.2.1 a8 c8 (by omega) (by omega) (by omega) (by omega)) (fun m_178 h_178 => ?_)
                            have q_178 := h_178.symm
                            subst q_178
                            refine ld_i8 (np := 183) dX6_ring_181 rfl ?_
                            refine wi_ret dX6_ring_183 rfl (rfl) (Nat.le_refl _) (Nat.le_refl _) ?_
                            obtain ⟨u1, u2⟩ := rep_swap y1 y3 (by omega) (by omega) (by omega)
                            rw [setLast_setLast] at u1
                            rw [lastC_setLast _ (by omega)] at u2
                            rw [lA1] at u1 u2
                            have hsp := swap_out (me := (I1, me.2)) (q := 1 + 5 + 6 * ka) (q2 := 1 + 5 + 6 * kc) (i := PA.2.1.length - 1) (j := PC.2.1.length - 1)
                            refine ⟨rfl, ?_⟩
                            refine GoodC.ps hFs hR (by simp) ⟨hsp.1, fun x hx => (hsp.2 x (by omega) (by omega)).trans (hso.2 x (by omega) (by omega))⟩ ⟨by simp; omega, fun p P hp => ?_⟩
                            rw [List.getElem?_set] at hp
                            by_cases hpc : kc = p
                            · subst hpc
                              rw [if_pos rfl, if_pos (by simp; omega)] at hp
                              cases hp
                              exact u2
                            · rw [if_neg hpc, List.getElem?_set] at hp
                              by_cases hpb : kb = p
                              · subst hpb
                                rw [if_pos rfl, if_pos (by simp; omega)] at hp
                                cases hp
                                exact y2.fr (fun x h1 h2 => hsp.2 x (by omega) (by omega))
                              · rw [if_neg hpb, List.getElem?_set] at hp
                                by_cases hpa : ka = p
                                · subst hpa
                                  rw [if_pos rfl, if_pos (by omega)] at hp
                                  cases hp
                                  exact u1
                                · rw [if_neg hpa] at hp
                                  exact (hR.1.1.2 p P hp).fr (fun x h1 h2 => (hsp.2 x (by omega) (by omega)).trans (hso.2 x (by omega) (by omega)))
                          · rw [if_pos c_156]
                            refine wl_bipush (np := 161) (v := -4) dX6_ring_159 rfl (by decide) ?_
                            refine wi_ret dX6_ring_161 rfl (rfl) (Nat.le_refl _) (Nat.le_refl _) ?_
                            exact ⟨rfl, GoodC.same hFs hR⟩
                        · rw [hrC.2.2.2.2.1, show (0 : Int32) = nI 0 from rfl, nI_eq (by omega) (by omega)] at c_137
                          exact notW (Or.inr (Or.inr c_137)) _
                · exact bad _ (Or.inr rfl) (fun h => h.2.2.2.elim (fun q => c_31 q) (fun q => q.2.2 c_64)) _
      · exact bad _ (Or.inl rfl) (fun h => h.2.2.1 c_24) _
end DC6
