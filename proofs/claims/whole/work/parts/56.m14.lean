theorem ok_pay {k day j : Nat} {P : Prs} (h : okPr k day P) (hj : j < P.2.1.length) (hge : ¬ P.1.1 < amtOf P j) : okPr k day (payP P j) := by
  obtain ⟨h1, h2, h3, h4, h5⟩ := h
  have ha := h4 _ (List.getElem_mem hj)
  have e : amtOf P j = (P.2.1[j]).2.1 := by unfold amtOf; rw [List.getElem?_eq_getElem hj]; rfl
  rw [Int32.lt_iff_toInt_lt, e] at hge
  refine ⟨?_, h2, h3, fun co hco => h4 co (List.mem_of_mem_eraseIdx hco), h5⟩
  show 0 ≤ (P.1.1 - amtOf P j).toInt ∧ (P.1.1 - amtOf P j).toInt ≤ _
  rw [e]
  have := ha.2.1
  have e2 : (10000 * k + 99 * day : Int) = ((10000 * k + 99 * day : Nat) : Int) := by omega
  by_cases hb : 10000 * k + 99 * day < 2 ^ 31
  · rw [ti_sub (by omega) (by omega)]
    omega
  · have hlt := Int32.toInt_lt (P.1.1 - (P.2.1[j]).2.1)
    have h1l := Int32.toInt_lt P.1.1
    rw [ti_sub (by omega) (by omega)]
    omega
theorem wf_setP {k j : Nat} {W : Wld} {P : Prs} (h : wfW k W) (hP : okPr k W.2.2.2.1 P) : wfW k (setP W j P) := by
  obtain ⟨h1, h2, h3⟩ := h
  refine ⟨fun P' hP' => ?_, h2, by simpa [setP] using h3⟩
  rcases List.mem_or_eq_of_mem_set hP' with q | q
  · exact h1 P' q
  · rw [q]; exact hP
theorem nights_tax : ∀ (n : Nat) (W : Wld) (p : Nat) (P' : Prs), (nightsW n W).1[p]? = some P' → ∃ P, W.1[p]? = some P ∧ P'.2.2 = P.2.2
  | 0, W, p, P', h => ⟨P', h, rfl⟩
  | n + 1, W, p, P', h => by
    obtain ⟨P1, h1, h2⟩ := nights_tax n (nightWd W) p P' h
    simp only [nightWd, List.getElem?_map] at h1
    obtain ⟨P, hP, rfl⟩ := Option.map_eq_some_iff.mp h1
    refine ⟨P, hP, h2.trans ?_⟩
    unfold nightP fallP
    split <;> rfl
theorem repT_nights {T : Nat → Int32} {n : Nat} {W : Wld} (h : RepTs T W.1) : RepTs T (nightsW n W).1 := fun p P hp l hl => by
  obtain ⟨P0, h0, e⟩ := nights_tax n W p P hp
  rw [e]
  exact h p P0 h0 l hl
section M14
variable {sh : List Shp} {me : Mem} {d kk : Nat} {S : St}
set_option maxHeartbeats 4000000 in
set_option maxRecDepth 100000 in
theorem c_M_judged (s lane i n : Int32) (hF : FixM sh me) (hR : RepM me S) (hwf : wfW kk S.1) (hkk : kk ≤ 64) (hd : 4 ≤ d) : CI d mX7_judged sh [.ref 136, .int s, .int lane, .int i, .int n] me (fun x m => x = (sp_judged S s lane i n).1 ∧ GoodM sh me m (sp_judged S s lane i n).2) := by
  have hFs := hF
  obtain ⟨z0, ⟨x1, x2, x4, x5, x6, x10, x11, x12, x16, x17, x18, x21, x22, x24, x25, x26, x27⟩, ⟨g1, g2, g4, g5, g6, g10, g11, g12, g16, g17, g18, g21, g22, g24, g25, g26, g27⟩, gs⟩ := hF
  obtain ⟨v1, v2, v3, v4, v5, v6, v7, v8, v9, v10, v11, v12⟩ := id hR.1
  have hl8 := hR.l8
  refine CI.mk (L := [.ref 136, .int s, .int lane, .int i, .int n, .float 0, .float 0, .float 0, .float 0, .float 0, .float 0]) (by decide) (Nat.le_of_ble_eq_true rfl) rfl ?_
  have bad : ¬ (inR s 0 3 ∧ inR lane 0 2 ∧ inR n 1 8) → ∀ L4, Wa mX7_judged (0, fun _ => 0) d 0 0 sh.length (PI sh (fun x m => x = (sp_judged S s lane i n).1 ∧ GoodM sh me m (sp_judged S s lane i n).2)) 27 L4 [] sh me 0 0 := by
    intro hb L4
    unfold sp_judged
    rw [cif_f hb]
    refine wl_iconst (np := 28) (v := -1) dX7_judged_27 rfl (rfl) ?_
    refine wi_ret dX7_judged_28 rfl (rfl) (Nat.le_refl _) (Nat.le_refl _) ?_
    exact ⟨rfl, GoodM.same hFs hR⟩
  refine ld_i1 (np := 1) dX7_judged_0 rfl ?_
  refine ciS_1 (np := 4) dX7_judged_1 rfl lk_X7_228 (Nat.le_of_ble_eq_true rfl) (by omega) (Nat.le_refl _) (Nat.le_refl _) (c_M_isSheet _ (by omega)) (fun x_1 m_1 h_1 => ?_)
  obtain ⟨rfl, q_1⟩ := h_1
  have q_1 := q_1.symm
  subst q_1
  refine wl_if_eq (np := 7) (tg := 27) dX7_judged_4 rfl rfl (fun c_4 => ?_) (fun c_4 => ?_)
  · exact bad (fun h => if0 c_4 h.1) _
  · refine ld_i2 (np := 8) dX7_judged_7 rfl ?_
    refine ciS_1 (np := 11) dX7_judged_8 rfl lk_X7_231 (Nat.le_of_ble_eq_true rfl) (by omega) (Nat.le_refl _) (Nat.le_refl _) (c_M_isLane _ (by omega)) (fun x_8 m_8 h_8 => ?_)
    obtain ⟨rfl, q_8⟩ := h_8
    have q_8 := q_8.symm
    subst q_8
    refine wl_if_eq (np := 14) (tg := 27) dX7_judged_11 rfl rfl (fun c_11 => ?_) (fun c_11 => ?_)
    · exact bad (fun h => if0 c_11 h.2.1) _
    · refine ld_i4 (np := 16) dX7_judged_14 rfl ?_
      refine wl_i2l (np := 17) dX7_judged_16 rfl ?_
      refine wl_lconst (np := 18) (v := 1) dX7_judged_17 rfl rfl ?_
      refine wl_ldc2 (np := 21) dX7_judged_18 rfl wk_X7_108 ?_
      refine ciS_3 (np := 24) dX7_judged_21 rfl lk_X7_68 (Nat.le_of_ble_eq_true rfl) (by omega) (Nat.le_refl _) (Nat.le_refl _) (c_in32 _ 1 8 (by decide) (by decide)) (fun x_21 m_21 h_21 => ?_)
      obtain ⟨rfl, q_21⟩ := h_21
      have q_21 := q_21.symm
      subst q_21
      refine wl_if_ne (np := 27) (tg := 29) dX7_judged_24 rfl rfl (fun c_24 => ?_) (fun c_24 => ?_)
      · have hgood : inR s 0 3 ∧ inR lane 0 2 ∧ inR n 1 8 := ⟨if1 c_4, if1 c_11, if1 c_24⟩
        obtain ⟨k, hk, rfl⟩ := nI_of2 (x := s) (M := 3) (n := 3) rfl (Int32.not_lt.mpr hgood.1.1) hgood.1.2
        obtain ⟨nn, hnn, rfl⟩ := nI_of2 (x := n) (M := 8) (n := 8) rfl (Int32.not_lt.mpr (Int32.le_trans (by decide) hgood.2.2.1)) hgood.2.2.2
        have hrS := hR.2.2.2 k (by omega)
        unfold sp_judged
        rw [cif_t hgood, nI_clamp (by omega), nI_clamp (by omega), mul3 nn hnn]
        refine ld_a0 (np := 30) dX7_judged_29 rfl ?_
        refine ld_i1 (np := 31) dX7_judged_30 rfl ?_
        refine ld_i2 (np := 32) dX7_judged_31 rfl ?_
        refine ld_i3 (np := 33) dX7_judged_32 rfl ?_
        refine wl_iconst (np := 34) (v := nI 3) dX7_judged_33 rfl (rfl) ?_
        refine ld_i4 (np := 36) dX7_judged_34 rfl ?_
        refine wl_imul (np := 37) dX7_judged_36 rfl ?_
        refine ciV_4 (np := 40) dX7_judged_37 rfl lk_X7_234 (by assumption) (Nat.le_of_ble_eq_true rfl) (by omega) (Nat.le_refl _) (Nat.le_refl _) (by rw [nIm]; exact c_M_finds (nn := 3 * nn) lane i z0 g24 x24 g25 x25 (by omega) (by omega) (Int32.not_lt.mpr hgood.2.1.1) hrS) (fun x_37 m_37 h_37 => ?_)
        obtain ⟨rfl, q_37⟩ := h_37
        have q_37 := q_37.symm
        subst q_37
        refine st_i5 (np := 42) dX7_judged_40 rfl (by decide) rfl ?_
        refine ld_i5 (np := 44) dX7_judged_42 rfl ?_
        refine wl_if_ge (np := 47) (tg := 50) dX7_judged_44 rfl rfl (fun c_44 => ?_) (fun c_44 => ?_)
        · have h0 : refS (S.2.2.2 k) lane i (nI (3 * nn)) = 0 := by
            rcases refS_neg (T := S.2.2.2 k) (lane := lane) (i := i) (n := nI (3 * nn)) with q | q
            · exact q
            · exact absurd q (Int32.not_lt.mpr c_44)
          rw [if_pos h0]
          match hT : S.2.2.2 k, hrS, h0 with
          | none, _, h0 => exact absurd (show (-11 : Int32) = 0 from h0) (by decide)
          | some (l, L, f), hrS, h0 =>
            obtain ⟨e1, e2, e3, e4, e5⟩ := hrS
            obtain ⟨hl, ia, ib, rfl, hib, hab⟩ := refS_0 h0
            rw [nI_eq (by omega) (by omega)] at hib
            subst hib
            rw [nI_clamp (by omega)]
            have hitS : itS (some (l, L, f)) = f := rfl
            rw [hitS]
            generalize hTg : jdF f ia nn 0 S.1 = T
            generalize hme2 : uR me 136 3 (some 138) = me2
            have gst : gR me2 136 3 = some 138 := by rw [← hme2, gR_uR, if_pos ⟨rfl, rfl⟩]
            have gr1 : ∀ b, b ≠ 3 → gR me2 136 b = gR me 136 b := fun b hb => by rw [← hme2, gR_uR, if_neg (fun q => hb q.2)]
            have gi1 : ∀ a, gI me2 a = gI me a := fun a => by rw [← hme2]; rfl
            have q1 := (gr1 1 (by omega)).trans g1
            have q2 := (gr1 2 (by omega)).trans g2
            have q4 := (gr1 4 (by omega)).trans g4
            have q5 := (gr1 5 (by omega)).trans g5
            have q6 := (gr1 6 (by omega)).trans g6
            have q26 := (gr1 26 (by omega)).trans g26
            have hF2 : FixM sh me2 := hFs.of (by rw [← hme2]; exact rfm_now rfl (Or.inr rfl))
            have hgd : ∀ F, GoodM sh me (uA me2 138 F) S := fun F => by
              rw [← hme2]
              exact GoodM.last hFs hR (rfm_now rfl (Or.inr rfl)) ⟨fun b _ _ _ _ => rfl, rfl, fun a h1 h2 => gI_uAn (by omega), fun a h1 h2 => gI_uAn (by omega)⟩ (fun a ha => gI_uAn (by omega))
            have key : ∀ fuel j (V : Wld) (F : Nat → Int32), fuel + j = nn → RepN F V.1 → RepTs (gI me 139) V.1 → V.1.length = S.1.1.length → V.2.1 = S.1.2.1 → V.2.2.1 = S.1.2.2.1 → wfW kk V → jdF f ia fuel j V = T → ∀ w5 w8 w9 w10, w8.category = 1 → w9.category = 1 → w10.category = 1 → Wa mX7_judged (0, fun _ => 0) d 0 0 sh.length (PI sh (fun x m => x = (T, S).1 ∧ GoodM sh me m (T, S).2)) 98 [.ref 136, .int (nI k), .int lane, .int (nI ia), .int (nI nn), .int w5, .int (nI V.2.2.2.1), .int (nI j), w8, w9, w10] [] sh (uA me2 138 F) 0 0 := by
              intro fuel
              induction fuel with
              | zero =>
                intro j V F hj hN hTs hlV hHV hLV hwV hT2 w5 w8 w9 w10 c8 c9 c10
                refine ld_i7 (np := 100) dX7_judged_98 rfl ?_
                refine ld_i4 (np := 102) dX7_judged_100 rfl ?_
                refine wl_icmp_ge (np := 105) (tg := 325) dX7_judged_102 rfl rfl (fun c_102 => ?_) (fun c_102 => ?_)
                · refine wl_bipush (np := 327) (v := -4) dX7_judged_325 rfl (by decide) ?_
                  refine wi_ret dX7_judged_327 rfl (rfl) (Nat.le_refl _) (Nat.le_refl _) ?_
                  exact ⟨hT2, hgd F⟩
                · rw [nI_leI (by omega) (by omega)] at c_102
                  omega
              | succ fuel ih =>
                intro j V F hj hN hTs hlV hHV hLV hwV hT2 w5 w8 w9 w10 c8 c9 c10
                refine ld_i7 (np := 100) dX7_judged_98 rfl ?_
                refine ld_i4 (np := 102) dX7_judged_100 rfl ?_
                refine wl_icmp_ge (np := 105) (tg := 325) dX7_judged_102 rfl rfl (fun c_102 => ?_) (fun c_102 => ?_)
                · rw [nI_leI (by omega) (by omega)] at c_102
                  omega
                · have l8V : ∀ P ∈ V.1, P.2.1.length ≤ 8 := fun P hP => by
                    obtain ⟨y, hy⟩ := List.getElem?_of_mem hP
                    exact (hN.2 y P hy).2.2.2.2.1
                  have fv : ∀ x, x < L → gI (uA me2 138 F) 152 (24 * k + x) = f x := fun x hx => by rw [gI_uAn (by omega), gi1]; exact e5 x hx
                  have fA : gI (uA me2 138 F) 152 (24 * k + ia + 3 * j) = f (ia + 3 * j) := by rw [Nat.add_assoc]; exact fv _ (by omega)
                  have fB : gI (uA me2 138 F) 152 (24 * k + ia + 3 * j + 1) = f (ia + 3 * j + 1) := by rw [Nat.add_assoc, Nat.add_assoc, ← Nat.add_assoc ia]; exact fv _ (by omega)
                  have fC : gI (uA me2 138 F) 152 (24 * k + ia + 3 * j + 2) = f (ia + 3 * j + 2) := by rw [Nat.add_assoc, Nat.add_assoc, ← Nat.add_assoc ia]; exact fv _ (by omega)
                  unfold jdF at hT2
                  refine wl_bipush (np := 107) (v := nI 24) dX7_judged_105 rfl (by decide) ?_
                  refine ld_i1 (np := 108) dX7_judged_107 rfl ?_
                  refine wl_imul (np := 109) dX7_judged_108 rfl ?_
                  refine ld_i3 (np := 110) dX7_judged_109 rfl ?_
                  refine wl_iadd (np := 111) dX7_judged_110 rfl ?_
                  refine wl_iconst (np := 112) (v := nI 3) dX7_judged_111 rfl (rfl) ?_
                  refine ld_i7 (np := 114) dX7_judged_112 rfl ?_
                  refine wl_imul (np := 115) dX7_judged_114 rfl ?_
                  refine wl_iadd (np := 116) dX7_judged_115 rfl ?_
                  refine st_i8 (np := 118) dX7_judged_116 rfl (by decide) rfl ?_
                  refine ld_a0 (np := 119) dX7_judged_118 rfl ?_
                  refine wl_getr (np := 122) dX7_judged_119 rfl fl_X7_58 rfl (by assumption) (by assumption) ?_
                  refine ld_i8 (np := 124) dX7_judged_122 rfl ?_
                  refine wl_iconst (np := 125) (v := 1) dX7_judged_124 rfl (rfl) ?_
                  refine wl_iadd (np := 126) dX7_judged_125 rfl ?_
                  refine wl_ialoadN (np := 127) dX7_judged_126 rfl (by first | (simp only [nIm, nIa, ← nI_succ]; exact rfl) | exact nI_z | exact nI_o | exact rfl) (by assumption) (by omega) (by first | decide | omega) ?_
                  refine st_i9 (np := 129) dX7_judged_127 rfl (by decide) rfl ?_
                  refine ld_a0 (np := 130) dX7_judged_129 rfl ?_
                  refine wl_getr (np := 133) dX7_judged_130 rfl fl_X7_58 rfl (by assumption) (by assumption) ?_
                  refine ld_i8 (np := 135) dX7_judged_133 rfl ?_
                  refine wl_iconst (np := 136) (v := nI 2) dX7_judged_135 rfl (rfl) ?_
                  refine wl_iadd (np := 137) dX7_judged_136 rfl ?_
                  refine wl_ialoadN (np := 138) dX7_judged_137 rfl (by first | (simp only [nIm, nIa, ← nI_succ]; exact rfl) | exact nI_z | exact nI_o | exact rfl) (by assumption) (by omega) (by first | decide | omega) ?_
                  refine st_i10 (np := 140) dX7_judged_138 rfl (by decide) rfl ?_
                  refine ld_a0 (np := 141) dX7_judged_140 rfl ?_
                  refine wl_getr (np := 144) dX7_judged_141 rfl fl_X7_58 rfl (by assumption) (by assumption) ?_
                  refine ld_i8 (np := 146) dX7_judged_144 rfl ?_
                  refine wl_ialoadN (np := 147) dX7_judged_146 rfl (by first | (simp only [nIm, nIa, ← nI_succ]; exact rfl) | exact nI_z | exact nI_o | exact rfl) (by assumption) (by omega) (by first | decide | omega) ?_
                  refine wl_i2l (np := 148) dX7_judged_147 rfl ?_
                  refine ld_i6 (np := 150) dX7_judged_148 rfl ?_
                  refine wl_i2l (np := 151) dX7_judged_150 rfl ?_
                  refine wl_ldc2 (np := 154) dX7_judged_151 rfl wk_X7_238 ?_
                  refine ciS_3 (np := 157) dX7_judged_154 rfl lk_X7_68 (Nat.le_of_ble_eq_true rfl) (by omega) (Nat.le_refl _) (Nat.le_refl _) (c_in32 _ (nI V.2.2.2.1) 359 rfl (by decide)) (fun x_154 m_154 h_154 => ?_)
                  obtain ⟨rfl, q_154⟩ := h_154
                  have q_154 := q_154.symm
                  subst q_154
                  refine wl_if_ne (np := 160) (tg := 163) dX7_judged_157 rfl rfl (fun c_157 => ?_) (fun c_157 => ?_)
                  · rw [fA] at c_157
                    have hin := if1 c_157
                    obtain ⟨t, ht, et⟩ := nI_of2 (x := f (ia + 3 * j)) (M := 359) (n := 359) rfl (Int32.not_lt.mpr (Int32.le_trans (nI_pos' (by have := hwV.2.1; omega)) hin.1)) hin.2
                    have hdt : V.2.2.2.1 ≤ t := by
                      have h := hin.1
                      rw [et, nI_leI (by have := hwV.2.1; omega) (by omega)] at h
                      exact h
                    simp only [nIm, nIa]
                    rw [fB, fC]
                    have key163 : ∀ fuel2 y (F2 : Nat → Int32), (t - V.2.2.2.1) - y < fuel2 → y ≤ t - V.2.2.2.1 → RepN F2 (nightsW y V).1 → Wa mX7_judged (0, fun _ => 0) d 0 0 sh.length (PI sh (fun x m => x = (T, S).1 ∧ GoodM sh me m (T, S).2)) 163 [.ref 136, .int (nI k), .int lane, .int (nI ia), .int (nI nn), .int w5, .int (nI (V.2.2.2.1 + y)), .int (nI j), .int (nI (24 * k + ia + 3 * j)), .int (f (ia + 3 * j + 1)), .int (f (ia + 3 * j + 2))] [] sh (uA me2 138 F2) 0 0 := by
                      intro fuel2
                      induction fuel2 with
                      | zero => intro y F2 h; omega
                      | succ fuel2 ih2 =>
                        intro y F2 hy1 hy2 hN2
                        have fA2 : gI (uA me2 138 F2) 152 (24 * k + ia + 3 * j) = f (ia + 3 * j) := by
                          rw [gI_uAn (by omega), gi1, Nat.add_assoc]; exact e5 _ (by omega)
                        obtain ⟨nf1, nf2, nf3, nf4, nf5, nf6, nf7⟩ := nights_facts y V
                        obtain ⟨wy1, wy2⟩ := wf_nights y hwV l8V hkk (by omega)
                        have hTy : RepTs (gI me 139) (nightsW y V).1 := repT_nights hTs
                        refine ld_i6 (np := 165) dX7_judged_163 rfl ?_
                        refine ld_a0 (np := 166) dX7_judged_165 rfl ?_
                        refine wl_getr (np := 169) dX7_judged_166 rfl fl_X7_58 rfl (by assumption) (by assumption) ?_
                        refine ld_i8 (np := 171) dX7_judged_169 rfl ?_
                        refine wl_ialoadN (np := 172) dX7_judged_171 rfl (by first | (simp only [nIm, nIa, ← nI_succ]; exact rfl) | exact nI_z | exact nI_o | exact rfl) (by assumption) (by omega) (by first | decide | omega) ?_
                        refine wl_icmp_ge (np := 175) (tg := 187) dX7_judged_172 rfl rfl (fun c_172 => ?_) (fun c_172 => ?_)
                        · rw [fA2, et, nI_leI (by omega) (by omega)] at c_172
                          have hye : y = t - V.2.2.2.1 := by omega
                          subst hye
                          generalize hVV : nightsW (t - V.2.2.2.1) V = V2 at *
                          have hn2 : gI (uA me2 138 F2) 136 0 = nI V2.1.length := by rw [gI_uAn (by omega), gi1, nf1, hlV]; exact v3
                          have hl5 := hN2.1
                          have no : payO V (f (ia + 3 * j)) (f (ia + 3 * j + 1)) (f (ia + 3 * j + 2)) = none → Wa mX7_judged (0, fun _ => 0) d 0 0 sh.length (PI sh (fun x m => x = (T, S).1 ∧ GoodM sh me m (T, S).2)) 275 [.ref 136, .int (nI k), .int lane, .int (nI ia), .int (nI nn), .int w5, .int (nI (V.2.2.2.1 + (t - V.2.2.2.1))), .int (nI j), .int (nI (24 * k + ia + 3 * j)), .int (f (ia + 3 * j + 1)), .int (f (ia + 3 * j + 2))] [] sh (uA me2 138 F2) 0 0 := by
                            intro hpo
                            rw [hpo] at hT2
                            refine ld_i7 (np := 277) dX7_judged_275 rfl ?_
                            refine wi_ret dX7_judged_277 rfl (rfl) (Nat.le_refl _) (Nat.le_refl _) ?_
                            exact ⟨hT2, hgd F2⟩
                          have hpe : payO V (f (ia + 3 * j)) (f (ia + 3 * j + 1)) (f (ia + 3 * j + 2)) = cif (isCt V.1 (f (ia + 3 * j + 1)) (f (ia + 3 * j + 2))) (cif (mayC V.2.2.1.1 (wsI (getP V2.1 (f (ia + 3 * j + 1))).2.1.length) (f (ia + 3 * j + 2)) ∧ ¬ (getP V2.1 (f (ia + 3 * j + 1))).1.1 < amtOf (getP V2.1 (f (ia + 3 * j + 1))) (f (ia + 3 * j + 2)).toNatClampNeg) (some (setP V2 (f (ia + 3 * j + 1)).toNatClampNeg (payP (getP V2.1 (f (ia + 3 * j + 1))) (f (ia + 3 * j + 2)).toNatClampNeg))) none) none := by
                            unfold payO
                            rw [et, nI_clamp (by omega), hVV, ← et]
                            by_cases hct : isCt V.1 (f (ia + 3 * j + 1)) (f (ia + 3 * j + 2))
                            · rw [cif_t ⟨hin, hct⟩, cif_t hct]
                            · rw [cif_f (fun q => hct q.2), cif_f hct]
                          rw [hpe] at no hT2
                          generalize hP1 : f (ia + 3 * j + 1) = pp at *
                          generalize hC1 : f (ia + 3 * j + 2) = cc at *
                          refine ld_a0 (np := 188) dX7_judged_187 rfl ?_
                          refine ld_i9 (np := 190) dX7_judged_188 rfl ?_
                          refine ciV_1 (np := 193) dX7_judged_190 rfl lk_X7_80 (by assumption) (Nat.le_of_ble_eq_true rfl) (by omega) (Nat.le_refl _) (Nat.le_refl _) (c_M_isOne pp z0 hn2 (by omega) (by omega)) (fun x_190 m_190 h_190 => ?_)
                          obtain ⟨h2, q2'⟩ := h_190
                          have q2' := q2'.symm
                          subst q2'
                          refine wl_if_eq (np := 196) (tg := 275) dX7_judged_193 rfl rfl (fun c_193 => ?_) (fun c_193 => ?_)
                          · refine no (cif_f ?_)
                            rintro ⟨k', P', j', hPk', rfl, hj', rfl⟩
                            exact or0 h2 c_193 ⟨k', by rw [nf1]; exact (List.getElem?_eq_some_iff.mp hPk').1, rfl⟩
                          · obtain ⟨kp, hkp, rfl⟩ := or1 h2 c_193
                            obtain ⟨P, hPk⟩ : ∃ P, V2.1[kp]? = some P := ⟨_, List.getElem?_eq_getElem hkp⟩
                            have hq := hN2.2 kp P hPk
                            have h8 := hq.2.2.2.2.1
                            have ein := in_iff (n := P.2.1.length) (by omega) cc
                            have hctI : isCt V.1 (nI kp) cc ↔ ∃ j', j' < P.2.1.length ∧ cc = nI j' := by
                              have hk1 : kp < V.1.length := by omega
                              obtain ⟨P'', hP'', hlen''⟩ := nf6 kp _ (List.getElem?_eq_getElem hk1)
                              rw [hPk] at hP''
                              cases hP''
                              constructor
                              · rintro ⟨k', P', j', hPk', hkk', hj', rfl⟩
                                have := (List.getElem?_eq_some_iff.mp hPk').1
                                rw [nI_eq (by omega) (by omega)] at hkk'
                                subst hkk'
                                rw [List.getElem?_eq_getElem hk1] at hPk'
                                cases hPk'
                                exact ⟨j', by omega, rfl⟩
                              · rintro ⟨j', hj', rfl⟩
                                exact ⟨kp, _, j', List.getElem?_eq_getElem hk1, rfl, by omega, rfl⟩
                            refine ld_i10 (np := 198) dX7_judged_196 rfl ?_
                            refine wl_i2l (np := 199) dX7_judged_198 rfl ?_
                            refine wl_lconst (np := 200) (v := 0) dX7_judged_199 rfl rfl ?_
                            refine ld_a0 (np := 201) dX7_judged_200 rfl ?_
                            refine wl_getr (np := 204) dX7_judged_201 rfl fl_X7_13 rfl (by assumption) (by assumption) ?_
                            refine wl_bipush (np := 206) (v := nI 40) dX7_judged_204 rfl (by decide) ?_
                            refine ld_i9 (np := 208) dX7_judged_206 rfl ?_
                            refine wl_imul (np := 209) dX7_judged_208 rfl ?_
                            refine wl_iconst (np := 210) (v := nI 3) dX7_judged_209 rfl (rfl) ?_
                            refine wl_iadd (np := 211) dX7_judged_210 rfl ?_
                            refine wl_ialoadN (np := 212) dX7_judged_211 rfl (by first | (simp only [nIm, nIa, ← nI_succ]; exact rfl) | exact nI_z | exact nI_o | exact rfl) (by assumption) (by omega) (by first | decide | omega) ?_
                            refine wl_iconst (np := 213) (v := 1) dX7_judged_212 rfl (rfl) ?_
                            refine wl_isub (np := 214) dX7_judged_213 rfl ?_
                            refine wl_i2l (np := 215) dX7_judged_214 rfl ?_
                            refine ciS_3 (np := 218) dX7_judged_215 rfl lk_X7_68 (Nat.le_of_ble_eq_true rfl) (by omega) (Nat.le_refl _) (Nat.le_refl _) (c_in32 _ 0 _ (by decide) rfl) (fun x_215 m_215 h_215 => ?_)
                            obtain ⟨rfl, q_215⟩ := h_215
                            have q_215 := q_215.symm
                            subst q_215
                            refine wl_if_eq (np := 221) (tg := 275) dX7_judged_218 rfl rfl (fun c_218 => ?_) (fun c_218 => ?_)
                            · rw [gI_uAs, hq.2.2.2.1] at c_218
                              exact no (cif_f (fun q => if0 c_218 (ein.mpr (hctI.mp q))))
                            · rw [gI_uAs, hq.2.2.2.1] at c_218
                              obtain ⟨jc, hjc, rfl⟩ := ein.mp (if1 c_218)
                              rw [cif_t (hctI.mpr ⟨jc, hjc, rfl⟩), getP_nI hPk (by omega), nI_clamp (by omega), nI_clamp (by omega)] at no hT2
                              obtain ⟨co, hco⟩ : ∃ co, P.2.1[jc]? = some co := ⟨_, List.getElem?_eq_getElem hjc⟩
                              have ham : amtOf P jc = co.2.1 := by unfold amtOf; rw [hco]; rfl
                              have hlaw : gI (uA me2 138 F2) 141 0 = V.2.2.1.1 := by rw [gI_uAn (by omega), gi1, hLV]; exact v5
                              refine ld_a0 (np := 222) dX7_judged_221 rfl ?_
                              refine ld_i10 (np := 224) dX7_judged_222 rfl ?_
                              refine ld_a0 (np := 225) dX7_judged_224 rfl ?_
                              refine wl_getr (np := 228) dX7_judged_225 rfl fl_X7_13 rfl (by assumption) (by assumption) ?_
                              refine wl_bipush (np := 230) (v := nI 40) dX7_judged_228 rfl (by decide) ?_
                              refine ld_i9 (np := 232) dX7_judged_230 rfl ?_
                              refine wl_imul (np := 233) dX7_judged_232 rfl ?_
                              refine wl_iconst (np := 234) (v := nI 3) dX7_judged_233 rfl (rfl) ?_
                              refine wl_iadd (np := 235) dX7_judged_234 rfl ?_
                              refine wl_ialoadN (np := 236) dX7_judged_235 rfl (by first | (simp only [nIm, nIa, ← nI_succ]; exact rfl) | exact nI_z | exact nI_o | exact rfl) (by assumption) (by omega) (by first | decide | omega) ?_
                              refine ciV_2 (np := 239) dX7_judged_236 rfl lk_X7_170 (by assumption) (Nat.le_of_ble_eq_true rfl) (by omega) (Nat.le_refl _) (Nat.le_refl _) (by rw [gI_uAs, hq.2.2.2.1]; exact c_M_mayOff z0 q6 x6 h8 hjc) (fun x_236 m_236 h_236 => ?_)
                              obtain ⟨h236, q236⟩ := h_236
                              have q236 := q236.symm
                              subst q236
                              rw [hlaw] at h236
                              refine wl_if_eq (np := 242) (tg := 275) dX7_judged_239 rfl rfl (fun c_239 => ?_) (fun c_239 => ?_)
                              · exact no (cif_f (fun q => or0 h236 c_239 q.1))
                              · have hmay := or1 h236 c_239
                                refine ld_a0 (np := 243) dX7_judged_242 rfl ?_
                                refine wl_getr (np := 246) dX7_judged_243 rfl fl_X7_13 rfl (by assumption) (by assumption) ?_
                                refine wl_bipush (np := 248) (v := nI 40) dX7_judged_246 rfl (by decide) ?_
                                refine ld_i9 (np := 250) dX7_judged_248 rfl ?_
                                refine wl_imul (np := 251) dX7_judged_250 rfl ?_
                                refine wl_ialoadN (np := 252) dX7_judged_251 rfl (by first | (simp only [nIm, nIa, ← nI_succ]; exact rfl) | exact nI_z | exact nI_o | exact rfl) (by assumption) (by omega) (by first | decide | omega) ?_
                                refine ld_a0 (np := 253) dX7_judged_252 rfl ?_
                                refine wl_getr (np := 256) dX7_judged_253 rfl fl_X7_13 rfl (by assumption) (by assumption) ?_
                                refine wl_bipush (np := 258) (v := nI 40) dX7_judged_256 rfl (by decide) ?_
                                refine ld_i9 (np := 260) dX7_judged_258 rfl ?_
                                refine wl_imul (np := 261) dX7_judged_260 rfl ?_
                                refine wl_bipush (np := 263) (v := nI 8) dX7_judged_261 rfl (by decide) ?_
                                refine wl_iadd (np := 264) dX7_judged_263 rfl ?_
                                refine wl_iconst (np := 265) (v := nI 4) dX7_judged_264 rfl (rfl) ?_
                                refine ld_i10 (np := 267) dX7_judged_265 rfl ?_
                                refine wl_imul (np := 268) dX7_judged_267 rfl ?_
                                refine wl_iadd (np := 269) dX7_judged_268 rfl ?_
                                refine wl_iconst (np := 270) (v := 1) dX7_judged_269 rfl (rfl) ?_
                                refine wl_iadd (np := 271) dX7_judged_270 rfl ?_
                                refine wl_ialoadN (np := 272) dX7_judged_271 rfl (by first | (simp only [nIm, nIa, ← nI_succ]; exact rfl) | exact nI_z | exact nI_o | exact rfl) (by assumption) (by omega) (by first | decide | omega) ?_
                                refine wl_icmp_ge (np := 275) (tg := 278) dX7_judged_272 rfl rfl (fun c_272 => ?_) (fun c_272 => ?_)
                                · rw [gI_uAs, hq.1, (hq.2.2.2.2.2.2.2 jc co hco).2.1] at c_272
                                  have hge : ¬ P.1.1 < amtOf P jc := by rw [ham]; exact Int32.not_lt.mpr c_272
                                  rw [cif_t ⟨hmay, hge⟩] at hT2
                                  refine ld_a0 (np := 279) dX7_judged_278 rfl ?_
                                  refine wl_getr (np := 282) dX7_judged_279 rfl fl_X7_13 rfl (by assumption) (by assumption) ?_
                                  refine wl_bipush (np := 284) (v := nI 40) dX7_judged_282 rfl (by decide) ?_
                                  refine ld_i9 (np := 286) dX7_judged_284 rfl ?_
                                  refine wl_imul (np := 287) dX7_judged_286 rfl ?_
                                  refine wl_dup2 (np := 288) dX7_judged_287 rfl rfl rfl ?_
                                  refine wl_ialoadN (np := 289) dX7_judged_288 rfl (by first | (simp only [nIm, nIa, ← nI_succ]; exact rfl) | exact nI_z | exact nI_o | exact rfl) (by assumption) (by omega) (by first | decide | omega) ?_
                                  refine ld_a0 (np := 290) dX7_judged_289 rfl ?_
                                  refine wl_getr (np := 293) dX7_judged_290 rfl fl_X7_13 rfl (by assumption) (by assumption) ?_
                                  refine wl_bipush (np := 295) (v := nI 40) dX7_judged_293 rfl (by decide) ?_
                                  refine ld_i9 (np := 297) dX7_judged_295 rfl ?_
                                  refine wl_imul (np := 298) dX7_judged_297 rfl ?_
                                  refine wl_bipush (np := 300) (v := nI 8) dX7_judged_298 rfl (by decide) ?_
                                  refine wl_iadd (np := 301) dX7_judged_300 rfl ?_
                                  refine wl_iconst (np := 302) (v := nI 4) dX7_judged_301 rfl (rfl) ?_
                                  refine ld_i10 (np := 304) dX7_judged_302 rfl ?_
                                  refine wl_imul (np := 305) dX7_judged_304 rfl ?_
                                  refine wl_iadd (np := 306) dX7_judged_305 rfl ?_
                                  refine wl_iconst (np := 307) (v := 1) dX7_judged_306 rfl (rfl) ?_
                                  refine wl_iadd (np := 308) dX7_judged_307 rfl ?_
                                  refine wl_ialoadN (np := 309) dX7_judged_308 rfl (by first | (simp only [nIm, nIa, ← nI_succ]; exact rfl) | exact nI_z | exact nI_o | exact rfl) (by assumption) (by omega) (by first | decide | omega) ?_
                                  refine wl_isub (np := 310) dX7_judged_309 rfl ?_
                                  refine wl_iastoreN (np := 311) dX7_judged_310 rfl (by first | (simp only [nIm, nIa, ← nI_succ]; exact rfl) | exact nI_z | exact nI_o | exact rfl) (by assumption) (by omega) (by first | decide | omega) ?_
                                  rw [uI_uA]
                                  have hq2 : RepQ (upF F2 (40 * kp) (gI (uA me2 138 F2) 138 (40 * kp) - gI (uA me2 138 F2) 138 (40 * kp + 8 + 4 * jc + 1))) kp ((P.1.1 - co.2.1, P.1.2), P.2) := by
                                    rw [gI_uAs]
                                    obtain ⟨y1, y2, y3, y4, y5, y6, y7, y8⟩ := hq
                                    refine ⟨?_, ?_, ?_, ?_, y5, ?_, ?_, fun c co' hc => ?_⟩
                                    · rw [upF_s, y1, (y8 jc co hco).2.1]
                                    · rw [upF_n (by omega)]; exact y2
                                    · rw [upF_n (by omega)]; exact y3
                                    · rw [upF_n (by omega)]; exact y4
                                    · rw [upF_n (by omega)]; exact y6
                                    · rw [upF_n (by omega)]; exact y7
                                    · rw [upF_n (by omega), upF_n (by omega), upF_n (by omega), upF_n (by omega)]
                                      exact y8 c co' hc
                                  generalize hG : upF F2 (40 * kp) (gI (uA me2 138 F2) 138 (40 * kp) - gI (uA me2 138 F2) 138 (40 * kp + 8 + 4 * jc + 1)) = G at hq2 ⊢
                                  have hGf : ∀ i, ¬ (40 * kp ≤ i ∧ i < 40 * kp + 40) → G i = F2 i := fun i hi => by
                                    rw [← hG, upF_n (by omega)]
                                  refine ld_a0 (np := 312) dX7_judged_311 rfl ?_
                                  refine ld_i9 (np := 314) dX7_judged_312 rfl ?_
                                  refine ld_i10 (np := 316) dX7_judged_314 rfl ?_
                                  refine cvV_2 (np := 319) dX7_judged_316 rfl lk_X7_173 (by assumption) (Nat.le_of_ble_eq_true rfl) (by omega) (Nat.le_refl _) (Nat.le_refl _) (c_M_off (A := 138) (P := ((P.1.1 - co.2.1, P.1.2), P.2)) z0 gst x2 (by rw [gI_uAs]; exact hq2) hjc (by omega)) (fun m_316 h_316 => ?_)
                                  obtain ⟨F4, rfl, hf1, hf2⟩ := h_316
                                  rw [uA_uA]
                                  rw [gI_uAs] at hf1
                                  have hpy : payP P jc = takeP ((P.1.1 - co.2.1, P.1.2), P.2) jc := by
                                    unfold payP takeP
                                    rw [hco]
                                    rfl
                                  rw [← hpy] at hf2
                                  refine inc_7 (np := 322) (v := _ + 1) dX7_judged_319 rfl rfl (by decide) rfl ?_
                                  refine wl_goto (tg := 98) dX7_judged_322 rfl ?_
                                  rw [← nI_succ]
                                  have hday : V.2.2.2.1 + (t - V.2.2.2.1) = (setP V2 kp (payP P jc)).2.2.2.1 := nf2.symm
                                  rw [hday]
                                  exact ih (j + 1) (setP V2 kp (payP P jc)) F4 (by omega) (repN_set hN2 hkp (fun i hi => (hf1 i hi).trans (hGf i hi)) hf2) (repT_set hTy hkp (hTy kp P hPk)) (by show (V2.1.set kp _).length = _; rw [List.length_set, nf1, hlV]) (nf3.trans hHV) (nf4.trans hLV) (wf_setP wy1 (ok_pay (wy1.1 P (mem_of_get hPk)) hjc hge)) hT2 _ _ _ _ rfl rfl rfl
                                · rw [gI_uAs, hq.1, (hq.2.2.2.2.2.2.2 jc co hco).2.1] at c_272
                                  refine no (cif_f (fun q => q.2 ?_))
                                  rw [ham]
                                  exact Int32.not_le.mp c_272
                        · rw [fA2, et, nI_leI (by omega) (by omega)] at c_172
                          refine inc_6 (np := 178) (v := _ + 1) dX7_judged_175 rfl rfl (by decide) rfl ?_
                          refine ld_a0 (np := 179) dX7_judged_178 rfl ?_
                          refine ld_i6 (np := 181) dX7_judged_179 rfl ?_
                          refine cvV_1 (np := 184) dX7_judged_181 rfl lk_X7_165 (by assumption) (Nat.le_of_ble_eq_true rfl) (by omega) (Nat.le_refl _) (Nat.le_refl _) (by rw [← nI_succ]; exact c_M_sleeps (A := 138) (ps := (nightsW y V).1) (H := (nightsW y V).2.1) (hF2.of (RfM.of rfl)) gst x2 (Or.inr rfl) (by rw [gI_uAs]; exact hN2) (by rw [gI_uAn (by omega), gi1]; exact hTy) (by rw [gI_uAn (by omega), gi1, nf1, hlV]; exact v3) (by rw [gI_uAn (by omega), gi1, nf3, hHV]; exact v4) (fun P hP => okR_of wy1 hkk hP) (by omega) (by omega)) (fun m_181 h_181 => ?_)
                          obtain ⟨F3, rfl, hF3⟩ := h_181
                          rw [uA_uA]
                          refine wl_goto (tg := 163) dX7_judged_184 rfl ?_
                          rw [← nI_succ]
                          refine ih2 (y + 1) F3 (by omega) (by omega) ?_
                          rw [nightsW_succ]
                          unfold nightWd
                          rw [nf2]
                          exact hF3
                    exact key163 (t - V.2.2.2.1 + 1) 0 F (by omega) (by omega) hN
                  · rw [fA] at c_157
                    have hpo : payO V (f (ia + 3 * j)) (f (ia + 3 * j + 1)) (f (ia + 3 * j + 2)) = none := by
                      unfold payO
                      rw [cif_f (fun q => if0 c_157 q.1)]
                    rw [hpo] at hT2
                    refine ld_i7 (np := 162) dX7_judged_160 rfl ?_
                    refine wi_ret dX7_judged_162 rfl (rfl) (Nat.le_refl _) (Nat.le_refl _) ?_
                    exact ⟨hT2, hgd F⟩
            have key0 : ∀ fuel y (F : Nat → Int32), 200 - y < fuel → y ≤ 200 → (∀ x, x < y → F x = gI me 137 x) → Wa mX7_judged (0, fun _ => 0) d 0 0 sh.length (PI sh (fun x m => x = (T, S).1 ∧ GoodM sh me m (T, S).2)) 53 [.ref 136, .int (nI k), .int lane, .int (nI ia), .int (nI nn), .int (refS (some (l, L, f)) lane (nI ia) (nI (3 * nn))), .int (nI y), .float 0, .float 0, .float 0, .float 0] [] sh (uA me 138 F) 0 0 := by
              intro fuel
              induction fuel with
              | zero => intro y F h; omega
              | succ fuel ih =>
                intro y F hy hyn hFx
                refine ld_i6 (np := 55) dX7_judged_53 rfl ?_
                refine wl_sipush (np := 58) (v := nI 200) dX7_judged_55 rfl (by decide) ?_
                refine wl_icmp_ge (np := 61) (tg := 81) dX7_judged_58 rfl rfl (fun c_58 => ?_) (fun c_58 => ?_)
                · rw [nI_le_iff (by omega) (by omega)] at c_58
                  have hye : y = 200 := by omega
                  subst hye
                  refine ld_a0 (np := 82) dX7_judged_81 rfl ?_
                  refine ld_a0 (np := 83) dX7_judged_82 rfl ?_
                  refine wl_getr (np := 86) dX7_judged_83 rfl fl_X7_13 rfl (by assumption) (by assumption) ?_
                  refine wl_putr (np := 89) dX7_judged_86 rfl fl_X7_16 nf_7_3 rfl (by assumption) ?_
                  refine ld_a0 (np := 90) dX7_judged_89 rfl ?_
                  refine wl_geti (np := 93) dX7_judged_90 rfl fl_X7_145 (by decide) (by assumption) ?_
                  refine st_i6 (np := 95) dX7_judged_93 rfl (by decide) rfl ?_
                  refine wl_iconst (np := 96) (v := 0) dX7_judged_95 rfl (rfl) ?_
                  refine st_i7 (np := 98) dX7_judged_96 rfl (by decide) rfl ?_
                  have em : uR (uA me 138 F) 136 3 (some 138) = uA me2 138 F := by rw [← hme2]; rfl
                  rw [em, show gI (uA me2 138 F) 136 7 = nI S.1.2.2.2.1 by rw [gI_uAn (by omega), gi1]; exact v8]
                  exact key nn 0 S.1 F (by omega) (v1.fr hFx) v2 rfl rfl rfl hwf hTg _ _ _ _ rfl rfl rfl
                · rw [nI_le_iff (by omega) (by omega)] at c_58
                  refine ld_a0 (np := 62) dX7_judged_61 rfl ?_
                  refine wl_getr (np := 65) dX7_judged_62 rfl fl_X7_13 rfl (by assumption) (by assumption) ?_
                  refine ld_i6 (np := 67) dX7_judged_65 rfl ?_
                  refine ld_a0 (np := 68) dX7_judged_67 rfl ?_
                  refine wl_getr (np := 71) dX7_judged_68 rfl fl_X7_7 rfl (by assumption) (by assumption) ?_
                  refine ld_i6 (np := 73) dX7_judged_71 rfl ?_
                  refine wl_ialoadN (np := 74) dX7_judged_73 rfl (by first | (simp only [nIm, nIa, ← nI_succ]; exact rfl) | exact nI_z | exact nI_o | exact rfl) (by assumption) (by omega) (by first | decide | omega) ?_
                  refine wl_iastoreN (np := 75) dX7_judged_74 rfl (by first | (simp only [nIm, nIa, ← nI_succ]; exact rfl) | exact nI_z | exact nI_o | exact rfl) (by assumption) (by omega) (by first | decide | omega) ?_
                  refine inc_6 (np := 78) (v := _ + 1) dX7_judged_75 rfl rfl (by decide) rfl ?_
                  refine wl_goto (tg := 53) dX7_judged_78 rfl ?_
                  rw [uI_uA, ← nI_succ, gI_uAn (by omega)]
                  refine ih (y + 1) _ (by omega) (by omega) (fun x hx => ?_)
                  by_cases hxy : x = y
                  · subst hxy; rw [upF_s]
                  · rw [upF_n hxy]; exact hFx x (by omega)
            refine wl_iconst (np := 51) (v := 0) dX7_judged_50 rfl (rfl) ?_
            refine st_i6 (np := 53) dX7_judged_51 rfl (by decide) rfl ?_
            have h00 := key0 201 0 (gI me 138) (by omega) (by omega) (fun x hx => by omega)
            rw [uA_id] at h00
            exact h00
        · have h0 : ¬ refS (S.2.2.2 k) lane i (nI (3 * nn)) = 0 := fun q => by
            rw [q] at c_44
            exact c_44 (by decide)
          rw [if_neg h0]
          refine ld_i5 (np := 49) dX7_judged_47 rfl ?_
          refine wi_ret dX7_judged_49 rfl (rfl) (Nat.le_refl _) (Nat.le_refl _) ?_
          exact ⟨rfl, GoodM.same hFs hR⟩
      · exact bad (fun h => if0 c_24 h.2.2) _
end M14
