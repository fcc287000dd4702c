section M6
variable {sh : List Shp} {me : Mem} {d : Nat} {S : St}
set_option maxHeartbeats 4000000 in
set_option maxRecDepth 100000 in
theorem c_M_of (p w : Int32) (hF : FixM sh me) (hR : RepM me S) (hd : 2 ≤ d) : CI d mX7_of sh [.ref 136, .int p, .int w] me (fun x m => x = (sp_of S p w).1 ∧ GoodM sh me m (sp_of S p w).2) := by
  have hFs := hF
  obtain ⟨z0, ⟨x1, x2, x4, x5, x6, x10, x11, x12, x16, x17, x18, x21, x22, x24, x25, x26, x27⟩, ⟨g1, g2, g4, g5, g6, g10, g11, g12, g16, g17, g18, g21, g22, g24, g25, g26, g27⟩, gs⟩ := hF
  have hn5 := hR.1.1.1
  have hn := hR.1.2.2.1
  have gs2 : gR (uR me 136 3 (some 137)) 136 3 = some 137 := by rw [gR_uR, if_pos ⟨rfl, rfl⟩]
  have gr1 : ∀ b, b ≠ 3 → gR (uR me 136 3 (some 137)) 136 b = gR me 136 b := fun b hb => by rw [gR_uR, if_neg (fun q => hb q.2)]
  have g1' := (gr1 1 (by omega)).trans g1
  have hgd : GoodM sh me (uR me 136 3 (some 137)) S := GoodM.last hFs hR (rfm_now rfl (Or.inl rfl)) ⟨fun b _ _ _ _ => rfl, rfl, fun _ _ _ => rfl, fun _ _ _ => rfl⟩ (fun _ _ => rfl)
  refine CI.mk (L := [.ref 136, .int p, .int w, .float 0, .float 0]) (by decide) (Nat.le_of_ble_eq_true rfl) rfl ?_
  refine ld_a0 (np := 1) dX7_of_0 rfl ?_
  refine ld_a0 (np := 2) dX7_of_1 rfl ?_
  refine wl_getr (np := 5) dX7_of_2 rfl fl_X7_7 rfl (by assumption) (by assumption) ?_
  refine wl_putr (np := 8) dX7_of_5 rfl fl_X7_16 nf_7_3 rfl (by assumption) ?_
  refine ld_a0 (np := 9) dX7_of_8 rfl ?_
  refine ld_i1 (np := 10) dX7_of_9 rfl ?_
  refine ciV_1 (np := 13) dX7_of_10 rfl lk_X7_80 (by assumption) (Nat.le_of_ble_eq_true rfl) (by omega) (Nat.le_refl _) (Nat.le_refl _) (c_M_isOne p z0 hn hn5 (by omega)) (fun x_10 m_10 h_10 => ?_)
  obtain ⟨h2, q2⟩ := h_10
  have q2 := q2.symm
  subst q2
  have h2 : x_10 = 1 ∧ isPn S.1.1 p ∨ x_10 = 0 ∧ ¬ isPn S.1.1 p := h2
  refine wl_if_eq (np := 16) (tg := 28) dX7_of_13 rfl rfl (fun c_13 => ?_) (fun c_13 => ?_)
  · unfold sp_of
    rw [cif_f (or0 h2 c_13)]
    refine wl_iconst (np := 29) (v := -1) dX7_of_28 rfl (rfl) ?_
    refine wi_ret dX7_of_29 rfl (rfl) (Nat.le_refl _) (Nat.le_refl _) ?_
    exact ⟨rfl, hgd⟩
  · have hpn := or1 h2 c_13
    obtain ⟨k, hk, rfl⟩ := or1 h2 c_13
    obtain ⟨P, hPk⟩ : ∃ P, S.1.1[k]? = some P := ⟨_, List.getElem?_eq_getElem hk⟩
    have hq : RepQ (gI (uR me 136 3 (some 137)) 137) k P := hR.1.1.2 k P hPk
    obtain ⟨y1, y2, y3, y4, y5, y6, y7, y8⟩ := id hq
    have hsp : sp_of S (nI k) w = (ofS P w, S) := by unfold sp_of; rw [cif_t hpn, getP_nI hPk (by omega)]
    rw [hsp]
    unfold ofS
    refine ld_i2 (np := 17) dX7_of_16 rfl ?_
    refine wl_i2l (np := 18) dX7_of_17 rfl ?_
    refine wl_lconst (np := 19) (v := 0) dX7_of_18 rfl rfl ?_
    refine wl_ldc2 (np := 22) dX7_of_19 rfl wk_X7_84 ?_
    refine ciS_3 (np := 25) dX7_of_22 rfl lk_X7_68 (Nat.le_of_ble_eq_true rfl) (by omega) (Nat.le_refl _) (Nat.le_refl _) (c_in32 _ 0 6 (by decide) (by decide)) (fun x_22 m_22 h_22 => ?_)
    obtain ⟨rfl, q_22⟩ := h_22
    have q_22 := q_22.symm
    subst q_22
    refine wl_if_ne (np := 28) (tg := 30) dX7_of_25 rfl rfl (fun c_25 => ?_) (fun c_25 => ?_)
    · have hin := if1 c_25
      obtain ⟨i, hi, rfl⟩ := nI_of2 (x := w) (M := 6) (n := 6) rfl (Int32.not_lt.mpr hin.1) hin.2
      have hsum : sumF (fun c => gI (uR me 136 3 (some 137)) 137 (40 * k + 8 + 4 * c + 1)) P.2.1.length = sumL (P.2.1.map (fun co => co.2.1)) := sumF_eq _ _ _ (fun c co hc => (y8 c co hc).2.1)
      have fin : Wa mX7_of (0, fun _ => 0) d 0 0 sh.length (PI sh (fun x m => x = (ofS P (nI i), S).1 ∧ GoodM sh me m (ofS P (nI i), S).2)) 79 [.ref 136, .int (nI k), .int (nI i), .int (sumL (P.2.1.map (fun co => co.2.1))), .int (nI P.2.1.length)] [] sh (uR me 136 3 (some 137)) 0 0 := by
        unfold ofS
        refine ld_i2 (np := 80) dX7_of_79 rfl ?_
        refine wl_iconst (np := 81) (v := nI 4) dX7_of_80 rfl (rfl) ?_
        refine wl_icmp_ge (np := 84) (tg := 98) dX7_of_81 rfl rfl (fun c_81 => ?_) (fun c_81 => ?_)
        · rw [nI_le_iff (by omega) (by omega)] at c_81
          rw [if_neg (by rw [nI_z, nI_eq (by omega) (by omega)]; omega), if_neg (by rw [nI_o, nI_eq (by omega) (by omega)]; omega), if_neg (by rw [show (2 : Int32) = nI 2 from rfl, nI_eq (by omega) (by omega)]; omega), if_neg (by rw [show (3 : Int32) = nI 3 from rfl, nI_eq (by omega) (by omega)]; omega)]
          refine ld_i2 (np := 99) dX7_of_98 rfl ?_
          refine wl_iconst (np := 100) (v := nI 4) dX7_of_99 rfl (rfl) ?_
          refine wl_icmp_ne (np := 103) (tg := 111) dX7_of_100 rfl rfl (fun c_100 => ?_) (fun c_100 => ?_)
          · rw [if_neg (show ¬ nI i = 4 from c_100)]
            refine ld_i2 (np := 112) dX7_of_111 rfl ?_
            refine wl_iconst (np := 113) (v := nI 5) dX7_of_112 rfl (rfl) ?_
            refine wl_icmp_ne (np := 116) (tg := 131) dX7_of_113 rfl rfl (fun c_113 => ?_) (fun c_113 => ?_)
            · rw [nI_eq (by omega) (by omega)] at c_100 c_113
              rw [if_neg (by rw [show (5 : Int32) = nI 5 from rfl, nI_eq (by omega) (by omega)]; omega), if_pos (by rw [show (6 : Int32) = nI 6 from rfl, nI_eq (by omega) (by omega)]; omega)]
              refine ld_a0 (np := 132) dX7_of_131 rfl ?_
              refine wl_getr (np := 135) dX7_of_132 rfl fl_X7_7 rfl (by assumption) (by assumption) ?_
              refine wl_bipush (np := 137) (v := nI 40) dX7_of_135 rfl (by decide) ?_
              refine ld_i1 (np := 138) dX7_of_137 rfl ?_
              refine wl_imul (np := 139) dX7_of_138 rfl ?_
              refine wl_iconst (np := 140) (v := nI 4) dX7_of_139 rfl (rfl) ?_
              refine wl_iadd (np := 141) dX7_of_140 rfl ?_
              refine wl_ialoadN (np := 142) dX7_of_141 rfl (by first | (simp only [nIm, nIa, ← nI_succ]; exact rfl) | exact nI_z | exact nI_o | exact rfl) (by assumption) (by omega) (by decide) ?_
              refine wi_ret dX7_of_142 rfl (rfl) (Nat.le_refl _) (Nat.le_refl _) ?_
              exact ⟨y6, hgd⟩
            · rw [if_pos (show nI i = 5 from c_113)]
              unfold minI
              refine ld_i3 (np := 117) dX7_of_116 rfl ?_
              refine wl_ldc (np := 119) dX7_of_117 rfl wk_X7_90 ?_
              refine wl_icmp_le (np := 122) (tg := 127) dX7_of_119 rfl rfl (fun c_119 => ?_) (fun c_119 => ?_)
              · rw [if_neg (Int32.not_lt.mpr c_119)]
                refine ld_i3 (np := 128) dX7_of_127 rfl ?_
                refine wl_goto (tg := 142) dX7_of_128 rfl ?_
                refine wi_ret dX7_of_142 rfl (rfl) (Nat.le_refl _) (Nat.le_refl _) ?_
                exact ⟨rfl, hgd⟩
              · rw [if_pos (Int32.not_le.mp c_119)]
                refine wl_ldc (np := 124) dX7_of_122 rfl wk_X7_90 ?_
                refine wl_goto (tg := 142) dX7_of_124 rfl ?_
                refine wi_ret dX7_of_142 rfl (rfl) (Nat.le_refl _) (Nat.le_refl _) ?_
                exact ⟨rfl, hgd⟩
          · rw [if_pos (show nI i = 4 from c_100)]
            refine ld_a0 (np := 104) dX7_of_103 rfl ?_
            refine ld_i1 (np := 105) dX7_of_104 rfl ?_
            refine ciV_1 (np := 108) dX7_of_105 rfl lk_X7_86 (by assumption) (Nat.le_of_ble_eq_true rfl) (by omega) (Nat.le_refl _) (Nat.le_refl _) (c_M_thickOf z0 gs2 x1 hq (by omega)) (fun x_105 m_105 h_105 => ?_)
            obtain ⟨rfl, q_105⟩ := h_105
            have q_105 := q_105.symm
            subst q_105
            refine wl_goto (tg := 142) dX7_of_108 rfl ?_
            refine wi_ret dX7_of_142 rfl (rfl) (Nat.le_refl _) (Nat.le_refl _) ?_
            exact ⟨rfl, hgd⟩
        · rw [nI_le_iff (by omega) (by omega)] at c_81
          refine ld_a0 (np := 85) dX7_of_84 rfl ?_
          refine wl_getr (np := 88) dX7_of_85 rfl fl_X7_7 rfl (by assumption) (by assumption) ?_
          refine wl_bipush (np := 90) (v := nI 40) dX7_of_88 rfl (by decide) ?_
          refine ld_i1 (np := 91) dX7_of_90 rfl ?_
          refine wl_imul (np := 92) dX7_of_91 rfl ?_
          refine ld_i2 (np := 93) dX7_of_92 rfl ?_
          refine wl_iadd (np := 94) dX7_of_93 rfl ?_
          refine wl_ialoadN (np := 95) dX7_of_94 rfl (by first | (simp only [nIm, nIa, ← nI_succ]; exact rfl) | exact nI_z | exact nI_o | exact rfl) (by assumption) (by omega) (by decide) ?_
          refine wl_goto (tg := 142) dX7_of_95 rfl ?_
          refine wi_ret dX7_of_142 rfl (rfl) (Nat.le_refl _) (Nat.le_refl _) ?_
          match i, hi, c_81 with
          | 0, _, _ => exact ⟨y1, hgd⟩
          | 1, _, _ => exact ⟨y2, hgd⟩
          | 2, _, _ => exact ⟨y3, hgd⟩
          | 3, _, _ => exact ⟨y4, hgd⟩
          | n + 4, _, h => omega
      have key : ∀ fuel j, P.2.1.length - j < fuel → j ≤ P.2.1.length → Wa mX7_of (0, fun _ => 0) d 0 0 sh.length (PI sh (fun x m => x = (ofS P (nI i), S).1 ∧ GoodM sh me m (ofS P (nI i), S).2)) 35 [.ref 136, .int (nI k), .int (nI i), .int (sumF (fun c => gI (uR me 136 3 (some 137)) 137 (40 * k + 8 + 4 * c + 1)) j), .int (nI j)] [] sh (uR me 136 3 (some 137)) 0 0 := by
        intro fuel
        induction fuel with
        | zero => intro j h; omega
        | succ fuel ih =>
          intro j hj hin
          refine ld_i4 (np := 37) dX7_of_35 rfl ?_
          refine ld_a0 (np := 38) dX7_of_37 rfl ?_
          refine wl_getr (np := 41) dX7_of_38 rfl fl_X7_7 rfl (by assumption) (by assumption) ?_
          refine wl_bipush (np := 43) (v := nI 40) dX7_of_41 rfl (by decide) ?_
          refine ld_i1 (np := 44) dX7_of_43 rfl ?_
          refine wl_imul (np := 45) dX7_of_44 rfl ?_
          refine wl_iconst (np := 46) (v := nI 3) dX7_of_45 rfl (rfl) ?_
          refine wl_iadd (np := 47) dX7_of_46 rfl ?_
          refine wl_ialoadN (np := 48) dX7_of_47 rfl (by first | (simp only [nIm, nIa, ← nI_succ]; exact rfl) | exact nI_z | exact nI_o | exact rfl) (by assumption) (by omega) (by decide) ?_
          refine wl_icmp_ge (np := 51) (tg := 79) dX7_of_48 rfl rfl (fun c_48 => ?_) (fun c_48 => ?_)
          · rw [y4, nI_le_iff (by omega) (by omega)] at c_48
            rw [show j = P.2.1.length by omega, hsum]
            exact fin
          · rw [y4, nI_le_iff (by omega) (by omega)] at c_48
            refine ld_i3 (np := 52) dX7_of_51 rfl ?_
            refine ld_a0 (np := 53) dX7_of_52 rfl ?_
            refine wl_getr (np := 56) dX7_of_53 rfl fl_X7_7 rfl (by assumption) (by assumption) ?_
            refine wl_bipush (np := 58) (v := nI 40) dX7_of_56 rfl (by decide) ?_
            refine ld_i1 (np := 59) dX7_of_58 rfl ?_
            refine wl_imul (np := 60) dX7_of_59 rfl ?_
            refine wl_bipush (np := 62) (v := nI 8) dX7_of_60 rfl (by decide) ?_
            refine wl_iadd (np := 63) dX7_of_62 rfl ?_
            refine wl_iconst (np := 64) (v := nI 4) dX7_of_63 rfl (rfl) ?_
            refine ld_i4 (np := 66) dX7_of_64 rfl ?_
            refine wl_imul (np := 67) dX7_of_66 rfl ?_
            refine wl_iadd (np := 68) dX7_of_67 rfl ?_
            refine wl_iconst (np := 69) (v := 1) dX7_of_68 rfl (rfl) ?_
            refine wl_iadd (np := 70) dX7_of_69 rfl ?_
            refine wl_ialoadN (np := 71) dX7_of_70 rfl (by first | (simp only [nIm, nIa, ← nI_succ]; exact rfl) | exact nI_z | exact nI_o | exact rfl) (by assumption) (by omega) (by decide) ?_
            refine wl_iadd (np := 72) dX7_of_71 rfl ?_
            refine st_i3 (np := 73) dX7_of_72 rfl (by decide) rfl ?_
            refine inc_4 (np := 76) (v := _ + 1) dX7_of_73 rfl rfl (by decide) rfl ?_
            refine wl_goto (tg := 35) dX7_of_76 rfl ?_
            rw [← nI_succ]
            exact ih (j + 1) (by omega) (by omega)
      refine wl_iconst (np := 31) (v := 0) dX7_of_30 rfl (rfl) ?_
      refine st_i3 (np := 32) dX7_of_31 rfl (by decide) rfl ?_
      refine wl_iconst (np := 33) (v := 0) dX7_of_32 rfl (rfl) ?_
      refine st_i4 (np := 35) dX7_of_33 rfl (by decide) rfl ?_
      exact key (P.2.1.length + 1) 0 (by omega) (by omega)
    · have hne := if0 c_25
      refine wl_iconst (np := 29) (v := -1) dX7_of_28 rfl (rfl) ?_
      refine wi_ret dX7_of_29 rfl (rfl) (Nat.le_refl _) (Nat.le_refl _) ?_
      rw [if_neg (fun q => hne (by rw [q]; decide)), if_neg (fun q => hne (by rw [q]; decide)), if_neg (fun q => hne (by rw [q]; decide)), if_neg (fun q => hne (by rw [q]; decide)), if_neg (fun q => hne (by rw [q]; decide)), if_neg (fun q => hne (by rw [q]; decide)), if_neg (fun q => hne (by rw [q]; decide))]
      exact ⟨rfl, hgd⟩
set_option maxHeartbeats 4000000 in
set_option maxRecDepth 100000 in
theorem c_M_ware (a t : Int32) (hF : FixM sh me) (hR : RepM me S) (hd : 1 ≤ d) : CI d mX7_ware sh [.ref 136, .int a, .int t] me (fun x m => x = (sp_ware S a t).1 ∧ GoodM sh me m (sp_ware S a t).2) := by
  have hFs := hF
  obtain ⟨z0, ⟨x1, x2, x4, x5, x6, x10, x11, x12, x16, x17, x18, x21, x22, x24, x25, x26, x27⟩, ⟨g1, g2, g4, g5, g6, g10, g11, g12, g16, g17, g18, g21, g22, g24, g25, g26, g27⟩, gs⟩ := hF
  obtain ⟨v1, v2, v3, v4, v5, v6, v7, v8, v9, v10, v11, v12⟩ := id hR.1
  refine CI.mk (L := [.ref 136, .int a, .int t]) (by decide) (Nat.le_of_ble_eq_true rfl) rfl ?_
  have bad : ¬ (inR a 1 9999 ∧ inR t 1 9) → ∀ L4, Wa mX7_ware (0, fun _ => 0) d 0 0 sh.length (PI sh (fun x m => x = (sp_ware S a t).1 ∧ GoodM sh me m (sp_ware S a t).2)) 24 L4 [] sh me 0 0 := by
    intro hb L4
    unfold sp_ware
    rw [cif_f hb]
    refine wl_iconst (np := 25) (v := -1) dX7_ware_24 rfl (rfl) ?_
    refine wi_ret dX7_ware_25 rfl (rfl) (Nat.le_refl _) (Nat.le_refl _) ?_
    exact ⟨rfl, GoodM.same hFs hR⟩
  refine ld_i1 (np := 1) dX7_ware_0 rfl ?_
  refine wl_i2l (np := 2) dX7_ware_1 rfl ?_
  refine wl_lconst (np := 3) (v := 1) dX7_ware_2 rfl rfl ?_
  refine wl_ldc2 (np := 6) dX7_ware_3 rfl wk_X7_74 ?_
  refine ciS_3 (np := 9) dX7_ware_6 rfl lk_X7_68 (Nat.le_of_ble_eq_true rfl) (by omega) (Nat.le_refl _) (Nat.le_refl _) (c_in32 _ 1 9999 (by decide) (by decide)) (fun x_6 m_6 h_6 => ?_)
  obtain ⟨rfl, q_6⟩ := h_6
  have q_6 := q_6.symm
  subst q_6
  refine wl_if_eq (np := 12) (tg := 24) dX7_ware_9 rfl rfl (fun c_9 => ?_) (fun c_9 => ?_)
  · exact bad (fun h => if0 c_9 h.1) _
  · refine ld_i2 (np := 13) dX7_ware_12 rfl ?_
    refine wl_i2l (np := 14) dX7_ware_13 rfl ?_
    refine wl_lconst (np := 15) (v := 1) dX7_ware_14 rfl rfl ?_
    refine wl_ldc2 (np := 18) dX7_ware_15 rfl wk_X7_100 ?_
    refine ciS_3 (np := 21) dX7_ware_18 rfl lk_X7_68 (Nat.le_of_ble_eq_true rfl) (by omega) (Nat.le_refl _) (Nat.le_refl _) (c_in32 _ 1 9 (by decide) (by decide)) (fun x_18 m_18 h_18 => ?_)
    obtain ⟨rfl, q_18⟩ := h_18
    have q_18 := q_18.symm
    subst q_18
    refine wl_if_ne (np := 24) (tg := 26) dX7_ware_21 rfl rfl (fun c_21 => ?_) (fun c_21 => ?_)
    · have hgood : inR a 1 9999 ∧ inR t 1 9 := ⟨if1 c_9, if1 c_21⟩
      unfold sp_ware
      rw [cif_t hgood]
      refine ld_a0 (np := 27) dX7_ware_26 rfl ?_
      refine wl_geti (np := 30) dX7_ware_27 rfl fl_X7_151 (by decide) (by assumption) ?_
      refine wl_bipush (np := 32) (v := nI 8) dX7_ware_30 rfl (by decide) ?_
      refine wl_icmp_ne (np := 35) (tg := 38) dX7_ware_32 rfl rfl (fun c_32 => ?_) (fun c_32 => ?_)
      · rw [v10, nI_eq (by omega) (by omega)] at c_32
        rw [if_neg (by omega)]
        have e9 : ∀ x, gI (uI me 142 S.1.2.2.2.2.length x) 136 9 = nI S.1.2.2.2.2.length := fun x => v10
        refine ld_a0 (np := 39) dX7_ware_38 rfl ?_
        refine wl_getr (np := 42) dX7_ware_39 rfl fl_X7_28 rfl (by assumption) (by assumption) ?_
        refine ld_a0 (np := 43) dX7_ware_42 rfl ?_
        refine wl_geti (np := 46) dX7_ware_43 rfl fl_X7_151 (by decide) (by assumption) ?_
        refine ld_i1 (np := 47) dX7_ware_46 rfl ?_
        refine wl_iastoreN (np := 48) dX7_ware_47 rfl (by first | exact v10 | exact e9 _ | exact rfl) (by assumption) (by omega) (by decide) ?_
        refine ld_a0 (np := 49) dX7_ware_48 rfl ?_
        refine wl_getr (np := 52) dX7_ware_49 rfl fl_X7_31 rfl (by assumption) (by assumption) ?_
        refine ld_a0 (np := 53) dX7_ware_52 rfl ?_
        refine wl_geti (np := 56) dX7_ware_53 rfl fl_X7_151 (by decide) (by assumption) ?_
        refine ld_i2 (np := 57) dX7_ware_56 rfl ?_
        refine wl_iastoreN (np := 58) dX7_ware_57 rfl (by first | exact v10 | exact e9 _ | exact rfl) (by assumption) (by omega) (by decide) ?_
        refine ld_a0 (np := 59) dX7_ware_58 rfl ?_
        refine wl_dup (np := 60) dX7_ware_59 rfl rfl ?_
        refine wl_geti (np := 63) dX7_ware_60 rfl fl_X7_151 (by decide) (by assumption) ?_
        refine wl_iconst (np := 64) (v := 1) dX7_ware_63 rfl (rfl) ?_
        refine wl_iadd (np := 65) dX7_ware_64 rfl ?_
        refine wl_puti (np := 68) dX7_ware_65 rfl fl_X7_151 nf_7_9 rfl (by assumption) ?_
        refine ld_a0 (np := 69) dX7_ware_68 rfl ?_
        refine wl_geti (np := 72) dX7_ware_69 rfl fl_X7_151 (by decide) (by assumption) ?_
        refine wl_iconst (np := 73) (v := 1) dX7_ware_72 rfl (rfl) ?_
        refine wl_isub (np := 74) dX7_ware_73 rfl ?_
        refine wi_ret dX7_ware_74 rfl (rfl) (Nat.le_refl _) (Nat.le_refl _) ?_
        rw [gI_uI_self]
        have e9' : gI (uI (uI me 142 S.1.2.2.2.2.length a) 143 S.1.2.2.2.2.length t) 136 9 = nI S.1.2.2.2.2.length := v10
        rw [e9', ← nI_succ, nI_pred]
        refine ⟨rfl, GoodM.now hFs hR (RfM.of rfl) (fun x hx => (gI_uI_ne (by omega)).trans ((gI_uI_ne (by omega)).trans (gI_uI_ne (by omega)))) ⟨rfl, rfl, rfl, rfl, rfl, rfl, rfl⟩ ⟨v1, v2, v3, v4, v5, v6, v7, v8, v9, ?_, ?_, fun k b hk => ?_⟩⟩
        · rw [gI_uI_self]; simp
        · simp; omega
        · dsimp only at hk
          have e3 : gI (uI (uI (uI me 142 S.1.2.2.2.2.length a) 143 S.1.2.2.2.2.length t) 136 9 (nI (S.1.2.2.2.2.length + 1))) 142 k = gI (uI me 142 S.1.2.2.2.2.length a) 142 k := rfl
          have e4 : gI (uI (uI (uI me 142 S.1.2.2.2.2.length a) 143 S.1.2.2.2.2.length t) 136 9 (nI (S.1.2.2.2.2.length + 1))) 143 k = gI (uI (uI me 142 S.1.2.2.2.2.length a) 143 S.1.2.2.2.2.length t) 143 k := rfl
          rw [e3, e4]
          by_cases hlt : k < S.1.2.2.2.2.length
          · rw [List.getElem?_append_left hlt] at hk
            rw [gI_uI_nb (by omega), gI_uI_nb (by omega)]
            exact v12 k b hk
          · rw [List.getElem?_append_right (by omega)] at hk
            have hz : k - S.1.2.2.2.2.length < 1 := (List.getElem?_eq_some_iff.mp hk).1
            have hke : k = S.1.2.2.2.2.length := by omega
            subst hke
            rw [Nat.sub_self] at hk
            cases hk
            exact ⟨gI_uI_self _ _ _ _, gI_uI_self _ _ _ _⟩
      · rw [v10, nI_eq (by omega) (by omega)] at c_32
        rw [if_pos (by omega)]
        refine wl_bipush (np := 37) (v := -3) dX7_ware_35 rfl (by decide) ?_
        refine wi_ret dX7_ware_37 rfl (rfl) (Nat.le_refl _) (Nat.le_refl _) ?_
        exact ⟨rfl, GoodM.same hFs hR⟩
    · exact bad (fun h => if0 c_21 h.2) _
end M6
