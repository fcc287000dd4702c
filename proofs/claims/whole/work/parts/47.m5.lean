section M5
variable {sh : List Shp} {me : Mem} {d : Nat} {S : St}
set_option maxHeartbeats 4000000 in
set_option maxRecDepth 100000 in
theorem c_M_cut (p c : Int32) (hF : FixM sh me) (hR : RepM me S) (hd : 3 ≤ d) : CI d mX7_cut sh [.ref 136, .int p, .int c] me (fun x m => x = (sp_cut S p c).1 ∧ GoodM sh me m (sp_cut S p c).2) := by
  have hFs := hF
  obtain ⟨z0, ⟨x1, x2, x4, x5, x6, x10, x11, x12, x16, x17, x18, x21, x22, x24, x25, x26, x27⟩, ⟨g1, g2, g4, g5, g6, g10, g11, g12, g16, g17, g18, g21, g22, g24, g25, g26, g27⟩, gs⟩ := hF
  have hn5 := hR.1.1.1
  refine CI.mk (L := [.ref 136, .int p, .int c]) (by decide) (Nat.le_of_ble_eq_true rfl) rfl ?_
  refine ld_a0 (np := 1) dX7_cut_0 rfl ?_
  refine ld_i1 (np := 2) dX7_cut_1 rfl ?_
  refine ld_i2 (np := 3) dX7_cut_2 rfl ?_
  refine ciV_2 (np := 6) dX7_cut_3 rfl lk_X7_91 (by assumption) (Nat.le_of_ble_eq_true rfl) (by omega) (Nat.le_refl _) (Nat.le_refl _) (c_M_isCoat p c hFs hR (by omega)) (fun x_3 m_3 h_3 => ?_)
  obtain ⟨h3, q3⟩ := h_3
  have q3 := q3.symm
  subst q3
  refine wl_if_ne (np := 9) (tg := 11) dX7_cut_6 rfl rfl (fun c_6 => ?_) (fun c_6 => ?_)
  · have hct := or1 h3 c_6
    obtain ⟨k, P, j, hPk, rfl, hj, rfl⟩ := or1 h3 c_6
    have hk := (List.getElem?_eq_some_iff.mp hPk).1
    have hq := hR.1.1.2 k P hPk
    have h8 := hq.2.2.2.2.1
    have hal := hR.1.2.2.2.2.2.1
    have hma := hR.1.2.2.2.2.2.2.1
    unfold sp_cut
    rw [cif_t hct, getP_nI hPk (by omega), nI_clamp (by omega), nI_clamp (by omega)]
    refine ld_a0 (np := 12) dX7_cut_11 rfl ?_
    refine ld_i1 (np := 13) dX7_cut_12 rfl ?_
    refine ld_i2 (np := 14) dX7_cut_13 rfl ?_
    refine ciV_2 (np := 17) dX7_cut_14 rfl lk_X7_177 (by assumption) (Nat.le_of_ble_eq_true rfl) (by omega) (Nat.le_refl _) (Nat.le_refl _) (c_M_isBetween z0 g1 x1 hq (by omega)) (fun x_14 m_14 h_14 => ?_)
    obtain ⟨rfl, q_14⟩ := h_14
    have q_14 := q_14.symm
    subst q_14
    refine wl_if_ne (np := 20) (tg := 23) dX7_cut_17 rfl rfl (fun c_17 => ?_) (fun c_17 => ?_)
    · rw [cif_t (if1 c_17)]
      refine ld_a0 (np := 24) dX7_cut_23 rfl ?_
      refine wl_geti (np := 27) dX7_cut_24 rfl fl_X7_148 (by decide) (by assumption) ?_
      refine ld_a0 (np := 28) dX7_cut_27 rfl ?_
      refine wl_getr (np := 31) dX7_cut_28 rfl fl_X7_25 rfl (by assumption) (by assumption) ?_
      refine wl_iconst (np := 32) (v := 1) dX7_cut_31 rfl (rfl) ?_
      refine wl_ialoadN (np := 33) dX7_cut_32 rfl (by first | (simp only [nIm, nIa, ← nI_succ]; exact rfl) | exact nI_z | exact nI_o | exact rfl) (by assumption) (by omega) (by decide) ?_
      refine wl_icmp_lt (np := 36) (tg := 39) dX7_cut_33 rfl rfl (fun c_33 => ?_) (fun c_33 => ?_)
      · rw [hma, hal] at c_33
        rw [cif_t c_33]
        have gs2 : gR (uR me 136 3 (some 137)) 136 3 = some 137 := by rw [gR_uR, if_pos ⟨rfl, rfl⟩]
        have gr1 : ∀ b, b ≠ 3 → gR (uR me 136 3 (some 137)) 136 b = gR me 136 b := fun b hb => by rw [gR_uR, if_neg (fun q => hb q.2)]
        have g1' := (gr1 1 (by omega)).trans g1
        refine ld_a0 (np := 40) dX7_cut_39 rfl ?_
        refine ld_a0 (np := 41) dX7_cut_40 rfl ?_
        refine wl_getr (np := 44) dX7_cut_41 rfl fl_X7_7 rfl (by assumption) (by assumption) ?_
        refine wl_putr (np := 47) dX7_cut_44 rfl fl_X7_16 nf_7_3 rfl (by assumption) ?_
        refine ld_a0 (np := 48) dX7_cut_47 rfl ?_
        refine ld_i1 (np := 49) dX7_cut_48 rfl ?_
        refine ld_i2 (np := 50) dX7_cut_49 rfl ?_
        refine cvV_2 (np := 53) dX7_cut_50 rfl lk_X7_173 (by assumption) (Nat.le_of_ble_eq_true rfl) (by omega) (Nat.le_refl _) (Nat.le_refl _) (c_M_off (A := 137) z0 gs2 x1 hq hj (by omega)) (fun m_50 h_50 => ?_)
        obtain ⟨f, rfl, hf1, hf2⟩ := h_50
        refine ld_a0 (np := 54) dX7_cut_53 rfl ?_
        refine wl_dup (np := 55) dX7_cut_54 rfl rfl ?_
        refine wl_geti (np := 58) dX7_cut_55 rfl fl_X7_148 (by decide) (by assumption) ?_
        refine wl_iconst (np := 59) (v := 1) dX7_cut_58 rfl (rfl) ?_
        refine wl_iadd (np := 60) dX7_cut_59 rfl ?_
        refine wl_puti (np := 63) dX7_cut_60 rfl fl_X7_148 nf_7_8 rfl (by assumption) ?_
        refine ld_a0 (np := 64) dX7_cut_63 rfl ?_
        refine wl_getr (np := 67) dX7_cut_64 rfl fl_X7_7 rfl (by assumption) (by assumption) ?_
        refine wl_bipush (np := 69) (v := nI 40) dX7_cut_67 rfl (by decide) ?_
        refine ld_i1 (np := 70) dX7_cut_69 rfl ?_
        refine wl_imul (np := 71) dX7_cut_70 rfl ?_
        refine wl_iconst (np := 72) (v := nI 3) dX7_cut_71 rfl (rfl) ?_
        refine wl_iadd (np := 73) dX7_cut_72 rfl ?_
        refine wl_ialoadN (np := 74) dX7_cut_73 rfl (by first | (simp only [nIm, nIa, ← nI_succ]; exact rfl) | exact nI_z | exact nI_o | exact rfl) (by assumption) (by omega) (by decide) ?_
        refine wi_ret dX7_cut_74 rfl (rfl) (Nat.le_refl _) (Nat.le_refl _) ?_
        have hgd := GoodM.p hFs hR (m := uA (uR me 136 3 (some 137)) 137 f) rfl (rfm_now rfl (Or.inl rfl)) hk hf1 hf2 (hR.1.2.1 k P hPk)
        refine ⟨?_, ?_⟩
        · have e : gI (uI (uA (uR me 136 3 (some 137)) 137 f) 136 8 (gI (uA (uR me 136 3 (some 137)) 137 f) 136 8 + 1)) 137 (40 * k + 3) = f (40 * k + 3) := rfl
          rw [e, hf2.2.2.2.1]
          unfold takeP
          dsimp only
          rw [List.length_eraseIdx, if_pos hj]
        · refine GoodM.now hFs hR (rfm_now rfl (Or.inl rfl)) (fun a ha => ?_) ⟨rfl, rfl, rfl, rfl, rfl, rfl, rfl⟩ ?_
          · exact (gI_uI_ne (by omega)).trans (gI_uAn (by omega))
          · obtain ⟨v1, v2, v3, v4, v5, v6, v7, v8, v9, v10, v11, v12⟩ := hgd.1.1
            refine ⟨v1, v2, v3, v4, v5, v6, ?_, v8, v9, v10, v11, v12⟩
            rw [gI_uI_self]
            rw [v7]
            rfl
      · rw [hma, hal] at c_33
        rw [cif_f c_33]
        refine wl_bipush (np := 38) (v := -4) dX7_cut_36 rfl (by decide) ?_
        refine wi_ret dX7_cut_38 rfl (rfl) (Nat.le_refl _) (Nat.le_refl _) ?_
        exact ⟨rfl, GoodM.same hFs hR⟩
    · rw [cif_f (if0 c_17)]
      refine wl_bipush (np := 22) (v := -2) dX7_cut_20 rfl (by decide) ?_
      refine wi_ret dX7_cut_22 rfl (rfl) (Nat.le_refl _) (Nat.le_refl _) ?_
      exact ⟨rfl, GoodM.same hFs hR⟩
  · unfold sp_cut
    rw [cif_f (or0 h3 c_6)]
    refine wl_iconst (np := 10) (v := -1) dX7_cut_9 rfl (rfl) ?_
    refine wi_ret dX7_cut_10 rfl (rfl) (Nat.le_refl _) (Nat.le_refl _) ?_
    exact ⟨rfl, GoodM.same hFs hR⟩
set_option maxHeartbeats 4000000 in
set_option maxRecDepth 100000 in
theorem c_M_take (p l a r t : Int32) (hF : FixM sh me) (hR : RepM me S) (hd : 2 ≤ d) : CI d mX7_take sh [.ref 136, .int p, .int l, .int a, .int r, .int t] me (fun x m => x = (sp_take S p l a r t).1 ∧ GoodM sh me m (sp_take S p l a r t).2) := by
  have hFs := hF
  obtain ⟨z0, ⟨x1, x2, x4, x5, x6, x10, x11, x12, x16, x17, x18, x21, x22, x24, x25, x26, x27⟩, ⟨g1, g2, g4, g5, g6, g10, g11, g12, g16, g17, g18, g21, g22, g24, g25, g26, g27⟩, gs⟩ := hF
  have hn5 := hR.1.1.1
  have hn := hR.1.2.2.1
  refine CI.mk (L := [.ref 136, .int p, .int l, .int a, .int r, .int t, .float 0, .float 0]) (by decide) (Nat.le_of_ble_eq_true rfl) rfl ?_
  have bad : ¬ (isPn S.1.1 p ∧ inR l 0 4 ∧ inR a 1 9999 ∧ inR r 0 20 ∧ inR t 1 9) → ∀ L4, Wa mX7_take (0, fun _ => 0) d 0 0 sh.length (PI sh (fun x m => x = (sp_take S p l a r t).1 ∧ GoodM sh me m (sp_take S p l a r t).2)) 53 L4 [] sh me 0 0 := by
    intro hb L4
    unfold sp_take
    rw [cif_f hb]
    refine wl_iconst (np := 54) (v := -1) dX7_take_53 rfl (rfl) ?_
    refine wi_ret dX7_take_54 rfl (rfl) (Nat.le_refl _) (Nat.le_refl _) ?_
    exact ⟨rfl, GoodM.same hFs hR⟩
  refine ld_a0 (np := 1) dX7_take_0 rfl ?_
  refine ld_i1 (np := 2) dX7_take_1 rfl ?_
  refine ciV_1 (np := 5) dX7_take_2 rfl lk_X7_80 (by assumption) (Nat.le_of_ble_eq_true rfl) (by omega) (Nat.le_refl _) (Nat.le_refl _) (c_M_isOne p z0 hn hn5 (by omega)) (fun x_2 m_2 h_2 => ?_)
  obtain ⟨h2, q2⟩ := h_2
  have q2 := q2.symm
  subst q2
  refine wl_if_eq (np := 8) (tg := 53) dX7_take_5 rfl rfl (fun c_5 => ?_) (fun c_5 => ?_)
  · exact bad (fun h => or0 h2 c_5 h.1) _
  · refine ld_i2 (np := 9) dX7_take_8 rfl ?_
    refine ciS_1 (np := 12) dX7_take_9 rfl lk_X7_97 (Nat.le_of_ble_eq_true rfl) (by omega) (Nat.le_refl _) (Nat.le_refl _) (c_M_isLender _ (by omega)) (fun x_9 m_9 h_9 => ?_)
    obtain ⟨rfl, q_9⟩ := h_9
    have q_9 := q_9.symm
    subst q_9
    refine wl_if_eq (np := 15) (tg := 53) dX7_take_12 rfl rfl (fun c_12 => ?_) (fun c_12 => ?_)
    · exact bad (fun h => if0 c_12 h.2.1) _
    · refine ld_i3 (np := 16) dX7_take_15 rfl ?_
      refine wl_i2l (np := 17) dX7_take_16 rfl ?_
      refine wl_lconst (np := 18) (v := 1) dX7_take_17 rfl rfl ?_
      refine wl_ldc2 (np := 21) dX7_take_18 rfl wk_X7_74 ?_
      refine ciS_3 (np := 24) dX7_take_21 rfl lk_X7_68 (Nat.le_of_ble_eq_true rfl) (by omega) (Nat.le_refl _) (Nat.le_refl _) (c_in32 _ 1 9999 (by decide) (by decide)) (fun x_21 m_21 h_21 => ?_)
      obtain ⟨rfl, q_21⟩ := h_21
      have q_21 := q_21.symm
      subst q_21
      refine wl_if_eq (np := 27) (tg := 53) dX7_take_24 rfl rfl (fun c_24 => ?_) (fun c_24 => ?_)
      · exact bad (fun h => if0 c_24 h.2.2.1) _
      · refine ld_i4 (np := 29) dX7_take_27 rfl ?_
        refine wl_i2l (np := 30) dX7_take_29 rfl ?_
        refine wl_lconst (np := 31) (v := 0) dX7_take_30 rfl rfl ?_
        refine wl_ldc2 (np := 34) dX7_take_31 rfl wk_X7_168 ?_
        refine ciS_3 (np := 37) dX7_take_34 rfl lk_X7_68 (Nat.le_of_ble_eq_true rfl) (by omega) (Nat.le_refl _) (Nat.le_refl _) (c_in32 _ 0 20 (by decide) (by decide)) (fun x_34 m_34 h_34 => ?_)
        obtain ⟨rfl, q_34⟩ := h_34
        have q_34 := q_34.symm
        subst q_34
        refine wl_if_eq (np := 40) (tg := 53) dX7_take_37 rfl rfl (fun c_37 => ?_) (fun c_37 => ?_)
        · exact bad (fun h => if0 c_37 h.2.2.2.1) _
        · refine ld_i5 (np := 42) dX7_take_40 rfl ?_
          refine wl_i2l (np := 43) dX7_take_42 rfl ?_
          refine wl_lconst (np := 44) (v := 1) dX7_take_43 rfl rfl ?_
          refine wl_ldc2 (np := 47) dX7_take_44 rfl wk_X7_100 ?_
          refine ciS_3 (np := 50) dX7_take_47 rfl lk_X7_68 (Nat.le_of_ble_eq_true rfl) (by omega) (Nat.le_refl _) (Nat.le_refl _) (c_in32 _ 1 9 (by decide) (by decide)) (fun x_47 m_47 h_47 => ?_)
          obtain ⟨rfl, q_47⟩ := h_47
          have q_47 := q_47.symm
          subst q_47
          refine wl_if_ne (np := 53) (tg := 55) dX7_take_50 rfl rfl (fun c_50 => ?_) (fun c_50 => ?_)
          · have hgood : isPn S.1.1 p ∧ inR l 0 4 ∧ inR a 1 9999 ∧ inR r 0 20 ∧ inR t 1 9 := ⟨or1 h2 c_5, if1 c_12, if1 c_24, if1 c_37, if1 c_50⟩
            obtain ⟨k, hk, rfl⟩ := hgood.1
            obtain ⟨P, hPk⟩ : ∃ P, S.1.1[k]? = some P := ⟨_, List.getElem?_eq_getElem hk⟩
            have hq := hR.1.1.2 k P hPk
            have h8 := hq.2.2.2.2.1
            unfold sp_take
            rw [cif_t hgood, getP_nI hPk (by omega), nI_clamp (by omega)]
            refine wl_bipush (np := 57) (v := nI 40) dX7_take_55 rfl (by decide) ?_
            refine ld_i1 (np := 58) dX7_take_57 rfl ?_
            refine wl_imul (np := 59) dX7_take_58 rfl ?_
            refine st_i6 (np := 61) dX7_take_59 rfl (by decide) rfl ?_
            refine ld_a0 (np := 62) dX7_take_61 rfl ?_
            refine wl_getr (np := 65) dX7_take_62 rfl fl_X7_7 rfl (by assumption) (by assumption) ?_
            refine ld_i6 (np := 67) dX7_take_65 rfl ?_
            refine wl_iconst (np := 68) (v := nI 3) dX7_take_67 rfl (rfl) ?_
            refine wl_iadd (np := 69) dX7_take_68 rfl ?_
            refine wl_ialoadN (np := 70) dX7_take_69 rfl (by first | (simp only [nIm, nIa, ← nI_succ]; exact rfl) | exact nI_z | exact nI_o | exact rfl) (by assumption) (by omega) (by decide) ?_
            refine st_i7 (np := 72) dX7_take_70 rfl (by decide) rfl ?_
            refine ld_i7 (np := 74) dX7_take_72 rfl ?_
            refine wl_bipush (np := 76) (v := nI 8) dX7_take_74 rfl (by decide) ?_
            refine wl_icmp_ne (np := 79) (tg := 82) dX7_take_76 rfl rfl (fun c_76 => ?_) (fun c_76 => ?_)
            · rw [hq.2.2.2.1, nI_eq (by omega) (by omega)] at c_76
              rw [if_neg (by omega)]
              refine ld_a0 (np := 83) dX7_take_82 rfl ?_
              refine wl_getr (np := 86) dX7_take_83 rfl fl_X7_7 rfl (by assumption) (by assumption) ?_
              refine ld_i6 (np := 88) dX7_take_86 rfl ?_
              refine wl_bipush (np := 90) (v := nI 8) dX7_take_88 rfl (by decide) ?_
              refine wl_iadd (np := 91) dX7_take_90 rfl ?_
              refine wl_iconst (np := 92) (v := nI 4) dX7_take_91 rfl (rfl) ?_
              refine ld_i7 (np := 94) dX7_take_92 rfl ?_
              refine wl_imul (np := 95) dX7_take_94 rfl ?_
              refine wl_iadd (np := 96) dX7_take_95 rfl ?_
              refine ld_i2 (np := 97) dX7_take_96 rfl ?_
              refine wl_iastoreN (np := 98) dX7_take_97 rfl (by first | (simp only [hq.2.2.2.1,nIm, nIa, ← nI_succ]; exact rfl) | exact nI_z | exact nI_o | exact rfl) (by assumption) (by omega) (by decide) ?_
              refine ld_a0 (np := 99) dX7_take_98 rfl ?_
              refine wl_getr (np := 102) dX7_take_99 rfl fl_X7_7 rfl (by assumption) (by assumption) ?_
              refine ld_i6 (np := 104) dX7_take_102 rfl ?_
              refine wl_bipush (np := 106) (v := nI 8) dX7_take_104 rfl (by decide) ?_
              refine wl_iadd (np := 107) dX7_take_106 rfl ?_
              refine wl_iconst (np := 108) (v := nI 4) dX7_take_107 rfl (rfl) ?_
              refine ld_i7 (np := 110) dX7_take_108 rfl ?_
              refine wl_imul (np := 111) dX7_take_110 rfl ?_
              refine wl_iadd (np := 112) dX7_take_111 rfl ?_
              refine wl_iconst (np := 113) (v := 1) dX7_take_112 rfl (rfl) ?_
              refine wl_iadd (np := 114) dX7_take_113 rfl ?_
              refine ld_i3 (np := 115) dX7_take_114 rfl ?_
              refine wl_iastoreN (np := 116) dX7_take_115 rfl (by first | (simp only [hq.2.2.2.1,nIm, nIa, ← nI_succ]; exact rfl) | exact nI_z | exact nI_o | exact rfl) (by assumption) (by omega) (by decide) ?_
              refine ld_a0 (np := 117) dX7_take_116 rfl ?_
              refine wl_getr (np := 120) dX7_take_117 rfl fl_X7_7 rfl (by assumption) (by assumption) ?_
              refine ld_i6 (np := 122) dX7_take_120 rfl ?_
              refine wl_bipush (np := 124) (v := nI 8) dX7_take_122 rfl (by decide) ?_
              refine wl_iadd (np := 125) dX7_take_124 rfl ?_
              refine wl_iconst (np := 126) (v := nI 4) dX7_take_125 rfl (rfl) ?_
              refine ld_i7 (np := 128) dX7_take_126 rfl ?_
              refine wl_imul (np := 129) dX7_take_128 rfl ?_
              refine wl_iadd (np := 130) dX7_take_129 rfl ?_
              refine wl_iconst (np := 131) (v := nI 2) dX7_take_130 rfl (rfl) ?_
              refine wl_iadd (np := 132) dX7_take_131 rfl ?_
              refine ld_i4 (np := 134) dX7_take_132 rfl ?_
              refine wl_iastoreN (np := 135) dX7_take_134 rfl (by first | (simp only [hq.2.2.2.1,nIm, nIa, ← nI_succ]; exact rfl) | exact nI_z | exact nI_o | exact rfl) (by assumption) (by omega) (by decide) ?_
              refine ld_a0 (np := 136) dX7_take_135 rfl ?_
              refine wl_getr (np := 139) dX7_take_136 rfl fl_X7_7 rfl (by assumption) (by assumption) ?_
              refine ld_i6 (np := 141) dX7_take_139 rfl ?_
              refine wl_bipush (np := 143) (v := nI 8) dX7_take_141 rfl (by decide) ?_
              refine wl_iadd (np := 144) dX7_take_143 rfl ?_
              refine wl_iconst (np := 145) (v := nI 4) dX7_take_144 rfl (rfl) ?_
              refine ld_i7 (np := 147) dX7_take_145 rfl ?_
              refine wl_imul (np := 148) dX7_take_147 rfl ?_
              refine wl_iadd (np := 149) dX7_take_148 rfl ?_
              refine wl_iconst (np := 150) (v := nI 3) dX7_take_149 rfl (rfl) ?_
              refine wl_iadd (np := 151) dX7_take_150 rfl ?_
              refine ld_i5 (np := 153) dX7_take_151 rfl ?_
              refine wl_iastoreN (np := 154) dX7_take_153 rfl (by first | (simp only [hq.2.2.2.1,nIm, nIa, ← nI_succ]; exact rfl) | exact nI_z | exact nI_o | exact rfl) (by assumption) (by omega) (by decide) ?_
              refine ld_a0 (np := 155) dX7_take_154 rfl ?_
              refine wl_getr (np := 158) dX7_take_155 rfl fl_X7_7 rfl (by assumption) (by assumption) ?_
              refine ld_i6 (np := 160) dX7_take_158 rfl ?_
              refine ld_a0 (np := 161) dX7_take_160 rfl ?_
              refine wl_getr (np := 164) dX7_take_161 rfl fl_X7_7 rfl (by assumption) (by assumption) ?_
              refine ld_i6 (np := 166) dX7_take_164 rfl ?_
              refine wl_ialoadN (np := 167) dX7_take_166 rfl (by first | (simp only [hq.2.2.2.1,nIm, nIa, ← nI_succ]; exact rfl) | exact nI_z | exact nI_o | exact rfl) (by assumption) (by omega) (by decide) ?_
              refine ld_i3 (np := 168) dX7_take_167 rfl ?_
              refine wl_iadd (np := 169) dX7_take_168 rfl ?_
              refine ciS_1 (np := 172) dX7_take_169 rfl lk_X7_155 (Nat.le_of_ble_eq_true rfl) (by omega) (Nat.le_refl _) (Nat.le_refl _) (c_M_most _) (fun x_169 m_169 h_169 => ?_)
              obtain ⟨rfl, q_169⟩ := h_169
              have q_169 := q_169.symm
              subst q_169
              refine wl_iastoreN (np := 173) dX7_take_172 rfl (by first | (simp only [hq.2.2.2.1,nIm, nIa, ← nI_succ]; exact rfl) | exact nI_z | exact nI_o | exact rfl) (by assumption) (by omega) (by decide) ?_
              refine ld_a0 (np := 174) dX7_take_173 rfl ?_
              refine wl_getr (np := 177) dX7_take_174 rfl fl_X7_7 rfl (by assumption) (by assumption) ?_
              refine ld_i6 (np := 179) dX7_take_177 rfl ?_
              refine wl_iconst (np := 180) (v := nI 3) dX7_take_179 rfl (rfl) ?_
              refine wl_iadd (np := 181) dX7_take_180 rfl ?_
              refine wl_dup2 (np := 182) dX7_take_181 rfl rfl rfl ?_
              refine wl_ialoadN (np := 183) dX7_take_182 rfl (by first | (simp only [hq.2.2.2.1,nIm, nIa, ← nI_succ]; exact rfl) | exact nI_z | exact nI_o | exact rfl) (by assumption) (by omega) (by decide) ?_
              refine wl_iconst (np := 184) (v := 1) dX7_take_183 rfl (rfl) ?_
              refine wl_iadd (np := 185) dX7_take_184 rfl ?_
              refine wl_iastoreN (np := 186) dX7_take_185 rfl (by first | (simp only [hq.2.2.2.1,nIm, nIa, ← nI_succ]; exact rfl) | exact nI_z | exact nI_o | exact rfl) (by assumption) (by omega) (by decide) ?_
              refine ld_i7 (np := 188) dX7_take_186 rfl ?_
              refine wl_iconst (np := 189) (v := 1) dX7_take_188 rfl (rfl) ?_
              refine wl_iadd (np := 190) dX7_take_189 rfl ?_
              refine wi_ret dX7_take_190 rfl (rfl) (Nat.le_refl _) (Nat.le_refl _) ?_
              rw [uI_eq me, uI_uA, uI_uA, uI_uA, gI_uAs, uI_uA, gI_uAs, uI_uA]
              rw [hq.2.2.2.1]
              obtain ⟨y1, y2, y3, y4, y5, y6, y7, y8⟩ := hq
              refine ⟨nI_succ _ ▸ rfl, GoodM.p hFs hR rfl (RfM.of rfl) hk (fun i hi => ?_) ?_ (hR.1.2.1 k P hPk)⟩
              · rw [upF_n (by omega), upF_n (by omega), upF_n (by omega), upF_n (by omega), upF_n (by omega), upF_n (by omega)]
              · refine ⟨?_, ?_, ?_, ?_, by simp; omega, ?_, ?_, fun c co' hc => ?_⟩
                · rw [upF_n (by omega), upF_s, upF_n (by omega), upF_n (by omega), upF_n (by omega), upF_n (by omega), y1]
                · rw [upF_n (by omega), upF_n (by omega), upF_n (by omega), upF_n (by omega), upF_n (by omega), upF_n (by omega)]; exact y2
                · rw [upF_n (by omega), upF_n (by omega), upF_n (by omega), upF_n (by omega), upF_n (by omega), upF_n (by omega)]; exact y3
                · rw [upF_s, upF_n (by omega), upF_n (by omega), upF_n (by omega), upF_n (by omega), upF_n (by omega), y4, ← nI_succ]; simp
                · rw [upF_n (by omega), upF_n (by omega), upF_n (by omega), upF_n (by omega), upF_n (by omega), upF_n (by omega)]; exact y6
                · rw [upF_n (by omega), upF_n (by omega), upF_n (by omega), upF_n (by omega), upF_n (by omega), upF_n (by omega)]; exact y7
                · dsimp only at hc
                  by_cases hlt : c < P.2.1.length
                  · rw [List.getElem?_append_left hlt] at hc
                    obtain ⟨e1, e2, e3, e4⟩ := y8 c co' hc
                    refine ⟨?_, ?_, ?_, ?_⟩
                    · rw [upF_n (by omega), upF_n (by omega), upF_n (by omega), upF_n (by omega), upF_n (by omega), upF_n (by omega)]; exact e1
                    · rw [upF_n (by omega), upF_n (by omega), upF_n (by omega), upF_n (by omega), upF_n (by omega), upF_n (by omega)]; exact e2
                    · rw [upF_n (by omega), upF_n (by omega), upF_n (by omega), upF_n (by omega), upF_n (by omega), upF_n (by omega)]; exact e3
                    · rw [upF_n (by omega), upF_n (by omega), upF_n (by omega), upF_n (by omega), upF_n (by omega), upF_n (by omega)]; exact e4
                  · rw [List.getElem?_append_right (by omega)] at hc
                    have hz : c - P.2.1.length < 1 := (List.getElem?_eq_some_iff.mp hc).1
                    have hce : c = P.2.1.length := by omega
                    subst hce
                    rw [Nat.sub_self] at hc
                    cases hc
                    refine ⟨?_, ?_, ?_, ?_⟩
                    · rw [upF_n (by omega), upF_n (by omega), upF_n (by omega), upF_n (by omega), upF_n (by omega), upF_s]
                    · rw [upF_n (by omega), upF_n (by omega), upF_n (by omega), upF_n (by omega), upF_s]
                    · rw [upF_n (by omega), upF_n (by omega), upF_n (by omega), upF_s]
                    · rw [upF_n (by omega), upF_n (by omega), upF_s]
            · rw [hq.2.2.2.1, nI_eq (by omega) (by omega)] at c_76
              rw [if_pos (by omega)]
              refine wl_bipush (np := 81) (v := -3) dX7_take_79 rfl (by decide) ?_
              refine wi_ret dX7_take_81 rfl (rfl) (Nat.le_refl _) (Nat.le_refl _) ?_
              exact ⟨rfl, GoodM.same hFs hR⟩
          · exact bad (fun h => if0 c_50 h.2.2.2.2) _
set_option maxHeartbeats 4000000 in
set_option maxRecDepth 100000 in
theorem c_M_tax (p l v : Int32) (hF : FixM sh me) (hR : RepM me S) (hd : 2 ≤ d) : CI d mX7_tax sh [.ref 136, .int p, .int l, .int v] me (fun x m => x = (sp_tax S p l v).1 ∧ GoodM sh me m (sp_tax S p l v).2) := by
  have hFs := hF
  obtain ⟨z0, ⟨x1, x2, x4, x5, x6, x10, x11, x12, x16, x17, x18, x21, x22, x24, x25, x26, x27⟩, ⟨g1, g2, g4, g5, g6, g10, g11, g12, g16, g17, g18, g21, g22, g24, g25, g26, g27⟩, gs⟩ := hF
  have hn5 := hR.1.1.1
  have hn := hR.1.2.2.1
  refine CI.mk (L := [.ref 136, .int p, .int l, .int v, .float 0]) (by decide) (Nat.le_of_ble_eq_true rfl) rfl ?_
  have bad : ¬ (isPn S.1.1 p ∧ inR l 0 4 ∧ inR v 0 9) → ∀ L4, Wa mX7_tax (0, fun _ => 0) d 0 0 sh.length (PI sh (fun x m => x = (sp_tax S p l v).1 ∧ GoodM sh me m (sp_tax S p l v).2)) 27 L4 [] sh me 0 0 := by
    intro hb L4
    unfold sp_tax
    rw [cif_f hb]
    refine wl_iconst (np := 28) (v := -1) dX7_tax_27 rfl (rfl) ?_
    refine wi_ret dX7_tax_28 rfl (rfl) (Nat.le_refl _) (Nat.le_refl _) ?_
    exact ⟨rfl, GoodM.same hFs hR⟩
  refine ld_a0 (np := 1) dX7_tax_0 rfl ?_
  refine ld_i1 (np := 2) dX7_tax_1 rfl ?_
  refine ciV_1 (np := 5) dX7_tax_2 rfl lk_X7_80 (by assumption) (Nat.le_of_ble_eq_true rfl) (by omega) (Nat.le_refl _) (Nat.le_refl _) (c_M_isOne p z0 hn hn5 (by omega)) (fun x_2 m_2 h_2 => ?_)
  obtain ⟨h2, q2⟩ := h_2
  have q2 := q2.symm
  subst q2
  refine wl_if_eq (np := 8) (tg := 27) dX7_tax_5 rfl rfl (fun c_5 => ?_) (fun c_5 => ?_)
  · exact bad (fun h => or0 h2 c_5 h.1) _
  · refine ld_i2 (np := 9) dX7_tax_8 rfl ?_
    refine ciS_1 (np := 12) dX7_tax_9 rfl lk_X7_97 (Nat.le_of_ble_eq_true rfl) (by omega) (Nat.le_refl _) (Nat.le_refl _) (c_M_isLender _ (by omega)) (fun x_9 m_9 h_9 => ?_)
    obtain ⟨rfl, q_9⟩ := h_9
    have q_9 := q_9.symm
    subst q_9
    refine wl_if_eq (np := 15) (tg := 27) dX7_tax_12 rfl rfl (fun c_12 => ?_) (fun c_12 => ?_)
    · exact bad (fun h => if0 c_12 h.2.1) _
    · refine ld_i3 (np := 16) dX7_tax_15 rfl ?_
      refine wl_i2l (np := 17) dX7_tax_16 rfl ?_
      refine wl_lconst (np := 18) (v := 0) dX7_tax_17 rfl rfl ?_
      refine wl_ldc2 (np := 21) dX7_tax_18 rfl wk_X7_100 ?_
      refine ciS_3 (np := 24) dX7_tax_21 rfl lk_X7_68 (Nat.le_of_ble_eq_true rfl) (by omega) (Nat.le_refl _) (Nat.le_refl _) (c_in32 _ 0 9 (by decide) (by decide)) (fun x_21 m_21 h_21 => ?_)
      obtain ⟨rfl, q_21⟩ := h_21
      have q_21 := q_21.symm
      subst q_21
      refine wl_if_ne (np := 27) (tg := 29) dX7_tax_24 rfl rfl (fun c_24 => ?_) (fun c_24 => ?_)
      · have hgood : isPn S.1.1 p ∧ inR l 0 4 ∧ inR v 0 9 := ⟨or1 h2 c_5, if1 c_12, if1 c_24⟩
        obtain ⟨k, hk, rfl⟩ := hgood.1
        obtain ⟨j, hj, rfl⟩ := nI_of2 (x := l) (M := 4) (n := 4) rfl (Int32.not_lt.mpr hgood.2.1.1) hgood.2.1.2
        obtain ⟨P, hPk⟩ : ∃ P, S.1.1[k]? = some P := ⟨_, List.getElem?_eq_getElem hk⟩
        have hq := hR.1.1.2 k P hPk
        unfold sp_tax
        rw [cif_t hgood, getP_nI hPk (by omega), nI_clamp (by omega), nI_clamp (by omega)]
        refine ld_a0 (np := 30) dX7_tax_29 rfl ?_
        refine wl_getr (np := 33) dX7_tax_30 rfl fl_X7_19 rfl (by assumption) (by assumption) ?_
        refine wl_iconst (np := 34) (v := nI 5) dX7_tax_33 rfl (rfl) ?_
        refine ld_i1 (np := 35) dX7_tax_34 rfl ?_
        refine wl_imul (np := 36) dX7_tax_35 rfl ?_
        refine ld_i2 (np := 37) dX7_tax_36 rfl ?_
        refine wl_iadd (np := 38) dX7_tax_37 rfl ?_
        refine wl_ialoadN (np := 39) dX7_tax_38 rfl (by first | (simp only [nIm, nIa, ← nI_succ]; exact rfl) | exact nI_z | exact nI_o | exact rfl) (by assumption) (by omega) (by decide) ?_
        refine st_i4 (np := 41) dX7_tax_39 rfl (by decide) rfl ?_
        refine ld_a0 (np := 42) dX7_tax_41 rfl ?_
        refine wl_getr (np := 45) dX7_tax_42 rfl fl_X7_19 rfl (by assumption) (by assumption) ?_
        refine wl_iconst (np := 46) (v := nI 5) dX7_tax_45 rfl (rfl) ?_
        refine ld_i1 (np := 47) dX7_tax_46 rfl ?_
        refine wl_imul (np := 48) dX7_tax_47 rfl ?_
        refine ld_i2 (np := 49) dX7_tax_48 rfl ?_
        refine wl_iadd (np := 50) dX7_tax_49 rfl ?_
        refine ld_i3 (np := 51) dX7_tax_50 rfl ?_
        refine wl_iastoreN (np := 52) dX7_tax_51 rfl (by first | (simp only [nIm, nIa, ← nI_succ]; exact rfl) | exact nI_z | exact nI_o | exact rfl) (by assumption) (by omega) (by decide) ?_
        refine ld_i4 (np := 54) dX7_tax_52 rfl ?_
        refine wi_ret dX7_tax_54 rfl (rfl) (Nat.le_refl _) (Nat.le_refl _) ?_
        refine ⟨hR.1.2.1 k P hPk j (by omega), ?_⟩
        refine GoodM.now hFs hR (RfM.of rfl) (fun a ha => gI_uI_ne (by omega)) ⟨rfl, rfl, rfl, rfl, rfl, rfl, rfl⟩ ?_
        obtain ⟨v1, v2, v3, v4, v5, v6, v7, v8, v9, v10, v11, v12⟩ := hR.1
        refine ⟨repN_set v1 hk (fun i hi => rfl) hq, fun p P' hp i hi => ?_, v3.trans (by simp [setPs]), v4, v5, v6, v7, v8, v9, v10, v11, v12⟩
        rw [List.getElem?_set] at hp
        by_cases hkp : k = p
        · subst hkp
          rw [if_pos rfl, if_pos hk] at hp
          cases hp
          unfold taxP
          dsimp only
          by_cases hij : i = j
          · subst hij
            rw [if_pos rfl]
            exact gI_uI_self _ _ _ _
          · rw [if_neg hij, gI_uI_nb (by omega)]
            exact v2 k P hPk i hi
        · rw [if_neg hkp] at hp
          rw [gI_uI_nb (by omega)]
          exact v2 p P' hp i hi
      · exact bad (fun h => if0 c_24 h.2.2) _
set_option maxHeartbeats 4000000 in
set_option maxRecDepth 100000 in
theorem c_M_rule (w v : Int32) (hF : FixM sh me) (hR : RepM me S) (hd : 2 ≤ d) : CI d mX7_rule sh [.ref 136, .int w, .int v] me (fun x m => x = (sp_rule S w v).1 ∧ GoodM sh me m (sp_rule S w v).2) := by
  have hFs := hF
  obtain ⟨z0, ⟨x1, x2, x4, x5, x6, x10, x11, x12, x16, x17, x18, x21, x22, x24, x25, x26, x27⟩, ⟨g1, g2, g4, g5, g6, g10, g11, g12, g16, g17, g18, g21, g22, g24, g25, g26, g27⟩, gs⟩ := hF
  obtain ⟨v1, v2, v3, v4, v5, v6, v7, v8, v9, v10, v11, v12⟩ := id hR.1
  refine CI.mk (L := [.ref 136, .int w, .int v, .float 0]) (by decide) (Nat.le_of_ble_eq_true rfl) rfl ?_
  have bad : ¬ (w = 0 ∧ inR v 0 2) → ¬ (w = 1 ∧ inR v 0 9) → ∀ L4, Wa mX7_rule (0, fun _ => 0) d 0 0 sh.length (PI sh (fun x m => x = (sp_rule S w v).1 ∧ GoodM sh me m (sp_rule S w v).2)) 32 L4 [] sh me 0 0 := by
    intro hb hc L4
    unfold sp_rule
    rw [cif_f hb, cif_f hc]
    refine wl_iconst (np := 33) (v := -1) dX7_rule_32 rfl (rfl) ?_
    refine wi_ret dX7_rule_33 rfl (rfl) (Nat.le_refl _) (Nat.le_refl _) ?_
    exact ⟨rfl, GoodM.same hFs hR⟩
  refine ld_i1 (np := 1) dX7_rule_0 rfl ?_
  refine wl_i2l (np := 2) dX7_rule_1 rfl ?_
  refine wl_lconst (np := 3) (v := 0) dX7_rule_2 rfl rfl ?_
  refine wl_lconst (np := 4) (v := 1) dX7_rule_3 rfl rfl ?_
  refine ciS_3 (np := 7) dX7_rule_4 rfl lk_X7_68 (Nat.le_of_ble_eq_true rfl) (by omega) (Nat.le_refl _) (Nat.le_refl _) (c_in32 _ 0 1 (by decide) (by decide)) (fun x_4 m_4 h_4 => ?_)
  obtain ⟨rfl, q_4⟩ := h_4
  have q_4 := q_4.symm
  subst q_4
  refine wl_if_eq (np := 10) (tg := 32) dX7_rule_7 rfl rfl (fun c_7 => ?_) (fun c_7 => ?_)
  · have hne := if0 c_7
    exact bad (fun h => hne (by rw [h.1]; decide)) (fun h => hne (by rw [h.1]; decide)) _
  · have hin := if1 c_7
    obtain ⟨j, hj, rfl⟩ := nI_of2 (x := w) (M := 1) (n := 1) rfl (Int32.not_lt.mpr hin.1) hin.2
    refine ld_i2 (np := 11) dX7_rule_10 rfl ?_
    refine wl_i2l (np := 12) dX7_rule_11 rfl ?_
    refine wl_lconst (np := 13) (v := 0) dX7_rule_12 rfl rfl ?_
    refine ld_i1 (np := 14) dX7_rule_13 rfl ?_
    refine wl_if_ne (np := 17) (tg := 23) dX7_rule_14 rfl rfl (fun c_14 => ?_) (fun c_14 => ?_)
    · have hj1 : j = 1 := by
        rw [nI_z, nI_eq (by omega) (by omega)] at c_14
        omega
      subst hj1
      refine wl_ldc2 (np := 26) dX7_rule_23 rfl wk_X7_100 ?_
      refine ciS_3 (np := 29) dX7_rule_26 rfl lk_X7_68 (Nat.le_of_ble_eq_true rfl) (by omega) (Nat.le_refl _) (Nat.le_refl _) (c_in32 _ 0 9 (by decide) (by decide)) (fun x_26 m_26 h_26 => ?_)
      obtain ⟨rfl, q_26⟩ := h_26
      have q_26 := q_26.symm
      subst q_26
      refine wl_if_ne (np := 32) (tg := 34) dX7_rule_29 rfl rfl (fun c_29 => ?_) (fun c_29 => ?_)
      · unfold sp_rule
        rw [cif_f (fun h => absurd h.1 (by decide)), cif_t ⟨rfl, if1 c_29⟩]
        refine ld_a0 (np := 35) dX7_rule_34 rfl ?_
        refine wl_getr (np := 38) dX7_rule_35 rfl fl_X7_25 rfl (by assumption) (by assumption) ?_
        refine ld_i1 (np := 39) dX7_rule_38 rfl ?_
        refine wl_ialoadN (np := 40) dX7_rule_39 rfl (by first | (simp only [nIm, nIa, ← nI_succ]; exact rfl) | exact nI_z | exact nI_o | exact rfl) (by assumption) (by omega) (by decide) ?_
        refine st_i3 (np := 41) dX7_rule_40 rfl (by decide) rfl ?_
        refine ld_a0 (np := 42) dX7_rule_41 rfl ?_
        refine wl_getr (np := 45) dX7_rule_42 rfl fl_X7_25 rfl (by assumption) (by assumption) ?_
        refine ld_i1 (np := 46) dX7_rule_45 rfl ?_
        refine ld_i2 (np := 47) dX7_rule_46 rfl ?_
        refine wl_iastoreN (np := 48) dX7_rule_47 rfl (by first | (simp only [nIm, nIa, ← nI_succ]; exact rfl) | exact nI_z | exact nI_o | exact rfl) (by assumption) (by omega) (by decide) ?_
        refine ld_i3 (np := 49) dX7_rule_48 rfl ?_
        refine wi_ret dX7_rule_49 rfl (rfl) (Nat.le_refl _) (Nat.le_refl _) ?_
        refine ⟨v6, GoodM.now hFs hR (RfM.of rfl) (fun a ha => gI_uI_ne (by omega)) ⟨rfl, rfl, rfl, rfl, rfl, rfl, rfl⟩ ⟨v1, v2, v3, v4, v5, ?_, v7, v8, v9, v10, v11, v12⟩⟩
        exact gI_uI_self _ _ _ _
      · exact bad (fun h => absurd h.1 (by decide)) (fun h => if0 c_29 h.2) _
    · have hj0 : j = 0 := by
        rw [nI_z, nI_eq (by omega) (by omega)] at c_14
        omega
      subst hj0
      refine wl_ldc2 (np := 20) dX7_rule_17 rfl wk_X7_106 ?_
      refine wl_goto (tg := 26) dX7_rule_20 rfl ?_
      refine ciS_3 (np := 29) dX7_rule_26 rfl lk_X7_68 (Nat.le_of_ble_eq_true rfl) (by omega) (Nat.le_refl _) (Nat.le_refl _) (c_in32 _ 0 2 (by decide) (by decide)) (fun x_26 m_26 h_26 => ?_)
      obtain ⟨rfl, q_26⟩ := h_26
      have q_26 := q_26.symm
      subst q_26
      refine wl_if_ne (np := 32) (tg := 34) dX7_rule_29 rfl rfl (fun c_29 => ?_) (fun c_29 => ?_)
      · unfold sp_rule
        rw [cif_t ⟨rfl, if1 c_29⟩]
        refine ld_a0 (np := 35) dX7_rule_34 rfl ?_
        refine wl_getr (np := 38) dX7_rule_35 rfl fl_X7_25 rfl (by assumption) (by assumption) ?_
        refine ld_i1 (np := 39) dX7_rule_38 rfl ?_
        refine wl_ialoadN (np := 40) dX7_rule_39 rfl (by first | (simp only [nIm, nIa, ← nI_succ]; exact rfl) | exact nI_z | exact nI_o | exact rfl) (by assumption) (by omega) (by decide) ?_
        refine st_i3 (np := 41) dX7_rule_40 rfl (by decide) rfl ?_
        refine ld_a0 (np := 42) dX7_rule_41 rfl ?_
        refine wl_getr (np := 45) dX7_rule_42 rfl fl_X7_25 rfl (by assumption) (by assumption) ?_
        refine ld_i1 (np := 46) dX7_rule_45 rfl ?_
        refine ld_i2 (np := 47) dX7_rule_46 rfl ?_
        refine wl_iastoreN (np := 48) dX7_rule_47 rfl (by first | (simp only [nIm, nIa, ← nI_succ]; exact rfl) | exact nI_z | exact nI_o | exact rfl) (by assumption) (by omega) (by decide) ?_
        refine ld_i3 (np := 49) dX7_rule_48 rfl ?_
        refine wi_ret dX7_rule_49 rfl (rfl) (Nat.le_refl _) (Nat.le_refl _) ?_
        refine ⟨v5, GoodM.now hFs hR (RfM.of rfl) (fun a ha => gI_uI_ne (by omega)) ⟨rfl, rfl, rfl, rfl, rfl, rfl, rfl⟩ ⟨v1, v2, v3, v4, ?_, v6, v7, v8, v9, v10, v11, v12⟩⟩
        exact gI_uI_self _ _ _ _
      · exact bad (fun h => if0 c_29 h.2) (fun h => absurd h.1 (by decide)) _
end M5
