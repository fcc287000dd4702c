section DC4
variable {sh : List Shp} {me : Mem} {d : Nat} {S : St}
set_option maxHeartbeats 4000000 in
set_option maxRecDepth 100000 in
theorem c_dc_take (p l a r t : Int32) (hF : FixC sh me) (hR : RepC me S) (hd : 2 ≤ d) : CI d mX6_take sh [.ref 0, .int p, .int l, .int a, .int r, .int t] me (fun x m => x = (sp_take S p l a r t).1 ∧ GoodC sh me m (sp_take S p l a r t).2) := by
  have hFs := hF
  obtain ⟨z0, ⟨g0, g1, g2, g3, g4, g5, g6, g7⟩, ⟨w1, w2, w3, pp1, l1, b1, t1⟩, zs, zss⟩ := hF
  have hw1 := w1
  obtain ⟨s0, s1, s2, s3, s4, r0, r1, r2, r3, hP⟩ := w1
  have hn5 := hR.1.1.1
  have hn := hR.1.2.1
  refine CI.mk (L := [.ref 0, .int p, .int l, .int a, .int r, .int t, .float 0]) (by decide) (Nat.le_of_ble_eq_true rfl) rfl ?_
  have bad : ¬ (isPn S.1.1 p ∧ inR l 0 4 ∧ inR a 1 9999 ∧ inR r 0 20 ∧ inR t 1 9) → ∀ L4, Wa mX6_take (0, fun _ => 0) d 0 0 sh.length (PI sh (fun x m => x = (sp_take S p l a r t).1 ∧ GoodC sh me m (sp_take S p l a r t).2)) 51 L4 [] sh me 0 0 := by
    intro hb L4
    unfold sp_take
    rw [cif_f hb]
    refine wl_iconst (np := 52) (v := -1) dX6_take_51 rfl (rfl) ?_
    refine wi_ret dX6_take_52 rfl (rfl) (Nat.le_refl _) (Nat.le_refl _) ?_
    exact ⟨rfl, GoodC.same hFs hR⟩
  refine ld_a0 (np := 1) dX6_take_0 rfl ?_
  refine wl_getr (np := 4) dX6_take_1 rfl fl_X6_10 rfl (by assumption) (by assumption) ?_
  refine ld_i1 (np := 5) dX6_take_4 rfl ?_
  refine ciV_1 (np := 8) dX6_take_5 rfl lk_X6_77 (by assumption) (Nat.le_of_ble_eq_true rfl) (by omega) (Nat.le_refl _) (Nat.le_refl _) (c_hasPerson p hw1 hR.1 (by omega)) (fun x_5 m_5 h_5 => ?_)
  obtain ⟨h5, q5⟩ := h_5
  have q5 := q5.symm
  subst q5
  refine wl_if_eq (np := 11) (tg := 51) dX6_take_8 rfl rfl (fun c_8 => ?_) (fun c_8 => ?_)
  · exact bad (fun h => or0 h5 c_8 h.1) _
  · refine ld_i2 (np := 12) dX6_take_11 rfl ?_
    refine ciS_1 (np := 15) dX6_take_12 rfl lk_X6_127 (Nat.le_of_ble_eq_true rfl) (by omega) (Nat.le_refl _) (Nat.le_refl _) (c_isLender _ (by omega)) (fun x_12 m_12 h_12 => ?_)
    obtain ⟨rfl, q_12⟩ := h_12
    have q_12 := q_12.symm
    subst q_12
    refine wl_if_eq (np := 18) (tg := 51) dX6_take_15 rfl rfl (fun c_15 => ?_) (fun c_15 => ?_)
    · exact bad (fun h => if0 c_15 h.2.1) _
    · refine ld_i3 (np := 19) dX6_take_18 rfl ?_
      refine wl_iconst (np := 20) (v := 1) dX6_take_19 rfl (rfl) ?_
      refine wl_sipush (np := 23) (v := 9999) dX6_take_20 rfl (by decide) ?_
      refine ciS_3 (np := 26) dX6_take_23 rfl lk_X6_61 (Nat.le_of_ble_eq_true rfl) (by omega) (Nat.le_refl _) (Nat.le_refl _) (c_isWithin _ _ _) (fun x_23 m_23 h_23 => ?_)
      obtain ⟨rfl, q_23⟩ := h_23
      have q_23 := q_23.symm
      subst q_23
      refine wl_if_eq (np := 29) (tg := 51) dX6_take_26 rfl rfl (fun c_26 => ?_) (fun c_26 => ?_)
      · exact bad (fun h => if0 c_26 h.2.2.1) _
      · refine ld_i4 (np := 31) dX6_take_29 rfl ?_
        refine wl_iconst (np := 32) (v := 0) dX6_take_31 rfl (rfl) ?_
        refine wl_bipush (np := 34) (v := 20) dX6_take_32 rfl (by decide) ?_
        refine ciS_3 (np := 37) dX6_take_34 rfl lk_X6_61 (Nat.le_of_ble_eq_true rfl) (by omega) (Nat.le_refl _) (Nat.le_refl _) (c_isWithin _ _ _) (fun x_34 m_34 h_34 => ?_)
        obtain ⟨rfl, q_34⟩ := h_34
        have q_34 := q_34.symm
        subst q_34
        refine wl_if_eq (np := 40) (tg := 51) dX6_take_37 rfl rfl (fun c_37 => ?_) (fun c_37 => ?_)
        · exact bad (fun h => if0 c_37 h.2.2.2.1) _
        · refine ld_i5 (np := 42) dX6_take_40 rfl ?_
          refine wl_iconst (np := 43) (v := 1) dX6_take_42 rfl (rfl) ?_
          refine wl_bipush (np := 45) (v := 9) dX6_take_43 rfl (by decide) ?_
          refine ciS_3 (np := 48) dX6_take_45 rfl lk_X6_61 (Nat.le_of_ble_eq_true rfl) (by omega) (Nat.le_refl _) (Nat.le_refl _) (c_isWithin _ _ _) (fun x_45 m_45 h_45 => ?_)
          obtain ⟨rfl, q_45⟩ := h_45
          have q_45 := q_45.symm
          subst q_45
          refine wl_if_ne (np := 51) (tg := 53) dX6_take_48 rfl rfl (fun c_48 => ?_) (fun c_48 => ?_)
          · have hgood : isPn S.1.1 p ∧ inR l 0 4 ∧ inR a 1 9999 ∧ inR r 0 20 ∧ inR t 1 9 := ⟨or1 h5 c_8, if1 c_15, if1 c_26, if1 c_37, if1 c_48⟩
            obtain ⟨k, hk, rfl⟩ := hgood.1
            obtain ⟨P, hPk⟩ : ∃ P, S.1.1[k]? = some P := ⟨_, List.getElem?_eq_getElem hk⟩
            have hrP := hR.1.1.2 k P hPk
            have h8 := hrP.2.2.2.2.2.1
            obtain ⟨ga, gb⟩ := hP k (by omega)
            have sP := gb.1
            unfold sp_take
            rw [cif_t hgood, getP_nI hPk (by omega), nI_clamp (by omega)]
            refine ld_a0 (np := 54) dX6_take_53 rfl ?_
            refine wl_getr (np := 57) dX6_take_54 rfl fl_X6_10 rfl (by assumption) (by first | assumption | (rw [nI_clamp (by omega)]; assumption)) ?_
            refine wl_getr (np := 60) dX6_take_57 rfl fl_X6_69 rfl (by assumption) (by first | assumption | (rw [nI_clamp (by omega)]; assumption)) ?_
            refine ld_i1 (np := 61) dX6_take_60 rfl ?_
            refine wl_aaload (np := 62) dX6_take_61 rfl (by assumption) (by decide) (vp_in_nI (by omega) (by decide)) (by first | assumption | (rw [nI_clamp (by omega)]; assumption)) ?_
            refine st_a6 (np := 64) dX6_take_62 rfl (by decide) rfl ?_
            refine ld_a6 (np := 66) dX6_take_64 rfl ?_
            refine wl_geti (np := 69) dX6_take_66 rfl fl_X6_90 (by decide) (by assumption) ?_
            refine wl_bipush (np := 71) (v := 8) dX6_take_69 rfl (by decide) ?_
            refine wl_icmp_lt (np := 74) (tg := 77) dX6_take_71 rfl rfl (fun c_71 => ?_) (fun c_71 => ?_)
            · rw [hrP.2.2.2.2.1, show (8 : Int32) = nI 8 from rfl, nI_ltI (by omega) (by decide)] at c_71
              rw [if_neg (by omega)]
              have hrp := rep_put hrP c_71 l a r t
              have hop := onl_put me (1 + 5 + 6 * k) P.2.1.length l a r t
              refine ld_a6 (np := 79) dX6_take_77 rfl ?_
              refine ld_i2 (np := 80) dX6_take_79 rfl ?_
              refine ld_i3 (np := 81) dX6_take_80 rfl ?_
              refine ld_i4 (np := 83) dX6_take_81 rfl ?_
              refine ld_i5 (np := 85) dX6_take_83 rfl ?_
              refine cvV_4 (np := 88) dX6_take_85 rfl lk_X6_176 (by assumption) (Nat.le_of_ble_eq_true rfl) (by omega) (Nat.le_refl _) (Nat.le_refl _) (c_putOn l a r t gb hrP.2.2.2.2.1 c_71) (fun m_85 h_85 => ?_)
              have q_85 := h_85.symm
              subst q_85
              refine ld_a6 (np := 90) dX6_take_88 rfl ?_
              refine ld_a6 (np := 92) dX6_take_90 rfl ?_
              refine wl_geti (np := 95) dX6_take_92 rfl fl_X6_81 (by decide) (by assumption) ?_
              refine ld_i3 (np := 96) dX6_take_95 rfl ?_
              refine wl_iadd (np := 97) dX6_take_96 rfl ?_
              refine wl_ldc (np := 99) dX6_take_97 rfl wk_X6_180 ?_
              refine wl_min (np := 102) dX6_take_99 rfl lk_X6_101 (Nat.le_of_ble_eq_true rfl) (by omega) (Nat.le_refl _) (Nat.le_refl _) ?_
              refine wl_puti (np := 105) dX6_take_102 rfl fl_X6_81 nf_1_6 rfl (by assumption) ?_
              refine ld_a6 (np := 107) dX6_take_105 rfl ?_
              refine wl_geti (np := 110) dX6_take_107 rfl fl_X6_90 (by decide) (by assumption) ?_
              refine wi_ret dX6_take_110 rfl (rfl) (Nat.le_refl _) (Nat.le_refl _) ?_
              generalize hM : putM me (1 + 5 + 6 * k) P.2.1.length l a r t = m1 at hrp hop ⊢
              have e6 : gI m1 (1 + 5 + 6 * k) 6 = P.1.1 := hrp.1
              have e5 : gI m1 (1 + 5 + 6 * k) 5 = nI (P.2.1.length + 1) := by rw [hrp.2.2.2.2.1]; simp [putP]
              rw [gI_uI_nb (by omega), e5, e6]
              refine ⟨rfl, ?_⟩
              have hO2 : Onl me (uI m1 (1 + 5 + 6 * k) 6 (if 999999 < P.1.1 + a then 999999 else P.1.1 + a)) (1 + 5 + 6 * k) (1 + 5 + 6 * k + 6) := hop.tr ⟨rfl, fun x hx => gI_uI_ne (by omega)⟩
              refine GoodC.p hFs hR hk hO2 ?_
              obtain ⟨f1, f2, f3, f4, f5, f6, f7, f8⟩ := hrp
              have ne : ∀ y, y ≠ 6 → gI (uI m1 (1 + 5 + 6 * k) 6 (if 999999 < P.1.1 + a then 999999 else P.1.1 + a)) (1 + 5 + 6 * k) y = gI m1 (1 + 5 + 6 * k) y := fun y hy => gI_uI_nb hy
              have ne2 : ∀ x y, x ≠ 1 + 5 + 6 * k → gI (uI m1 (1 + 5 + 6 * k) 6 (if 999999 < P.1.1 + a then 999999 else P.1.1 + a)) x y = gI m1 x y := fun x y hx => congrFun (gI_uI_ne hx) y
              refine ⟨gI_uI_self _ _ _ _, (ne _ (by omega)).trans f2, (ne _ (by omega)).trans f3, (ne _ (by omega)).trans f4, (ne _ (by omega)).trans f5, f6, fun c co hc => ?_, fun j hj => (ne2 _ _ (by omega)).trans (f8 j hj)⟩
              obtain ⟨y1, y2, y3, y4⟩ := f7 c co hc
              exact ⟨(ne2 _ _ (by omega)).trans y1, (ne2 _ _ (by omega)).trans y2, (ne2 _ _ (by omega)).trans y3, (ne2 _ _ (by omega)).trans y4⟩
            · rw [hrP.2.2.2.2.1, show (8 : Int32) = nI 8 from rfl, nI_ltI (by omega) (by decide)] at c_71
              rw [if_pos (by omega)]
              refine wl_bipush (np := 76) (v := -3) dX6_take_74 rfl (by decide) ?_
              refine wi_ret dX6_take_76 rfl (rfl) (Nat.le_refl _) (Nat.le_refl _) ?_
              exact ⟨rfl, GoodC.same hFs hR⟩
          · exact bad (fun h => if0 c_48 h.2.2.2.2) _
set_option maxHeartbeats 4000000 in
set_option maxRecDepth 100000 in
theorem c_dc_pay (p c : Int32) (hF : FixC sh me) (hR : RepC me S) (hd : 3 ≤ d) : CI d mX6_pay sh [.ref 0, .int p, .int c] me (fun x m => x = (sp_pay S p c).1 ∧ GoodC sh me m (sp_pay S p c).2) := by
  have hFs := hF
  obtain ⟨z0, ⟨g0, g1, g2, g3, g4, g5, g6, g7⟩, ⟨w1, w2, w3, pp1, l1, b1, t1⟩, zs, zss⟩ := hF
  have hw1 := w1
  obtain ⟨s0, s1, s2, s3, s4, r0, r1, r2, r3, hP⟩ := w1
  have hn5 := hR.1.1.1
  have hn := hR.1.2.1
  refine CI.mk (L := [.ref 0, .int p, .int c, .float 0]) (by decide) (Nat.le_of_ble_eq_true rfl) rfl ?_
  refine ld_a0 (np := 1) dX6_pay_0 rfl ?_
  refine wl_getr (np := 4) dX6_pay_1 rfl fl_X6_10 rfl (by assumption) (by assumption) ?_
  refine ld_i1 (np := 5) dX6_pay_4 rfl ?_
  refine ld_i2 (np := 6) dX6_pay_5 rfl ?_
  refine ciV_2 (np := 9) dX6_pay_6 rfl lk_X6_110 (by assumption) (Nat.le_of_ble_eq_true rfl) (by omega) (Nat.le_refl _) (Nat.le_refl _) (c_hasCoat p c hw1 hR.1 (by omega)) (fun x_6 m_6 h_6 => ?_)
  obtain ⟨h6, q6⟩ := h_6
  have q6 := q6.symm
  subst q6
  refine wl_if_ne (np := 12) (tg := 14) dX6_pay_9 rfl rfl (fun c_9 => ?_) (fun c_9 => ?_)
  · have hct := or1 h6 c_9
    obtain ⟨k, P, j, hPk, rfl, hj, rfl⟩ := or1 h6 c_9
    have hk := (List.getElem?_eq_some_iff.mp hPk).1
    have hrP := hR.1.1.2 k P hPk
    have h8 := hrP.2.2.2.2.2.1
    obtain ⟨ga, gb⟩ := hP k (by omega)
    have gb0 := gb
    obtain ⟨t0, t1', t2, t3, t4, t5, u0, u1, u2, u3, u4⟩ := gb
    obtain ⟨co, hco⟩ := hrP.lt hj
    have hamt : gI me (1 + 5 + 6 * k + 2) j = (getC P (nI j)).2.1 := by
      rw [(hrP.2.2.2.2.2.2.1 j co hco).2.1]
      unfold getC
      rw [nI_clamp (by omega), hco]
      rfl
    have hoff := hR.1.2.2.2.1
    unfold sp_pay
    rw [cif_t hct, getP_nI hPk (by omega), nI_clamp (by omega), nI_clamp (by omega)]
    refine ld_a0 (np := 15) dX6_pay_14 rfl ?_
    refine wl_getr (np := 18) dX6_pay_15 rfl fl_X6_10 rfl (by assumption) (by first | assumption | (rw [nI_clamp (by omega)]; assumption)) ?_
    refine wl_getr (np := 21) dX6_pay_18 rfl fl_X6_69 rfl (by assumption) (by first | assumption | (rw [nI_clamp (by omega)]; assumption)) ?_
    refine ld_i1 (np := 22) dX6_pay_21 rfl ?_
    refine wl_aaload (np := 23) dX6_pay_22 rfl (by assumption) (by decide) (vp_in_nI (by omega) (by decide)) (by first | assumption | (rw [nI_clamp (by omega)]; assumption)) ?_
    refine st_a3 (np := 24) dX6_pay_23 rfl (by decide) rfl ?_
    refine ld_a0 (np := 25) dX6_pay_24 rfl ?_
    refine wl_getr (np := 28) dX6_pay_25 rfl fl_X6_10 rfl (by assumption) (by first | assumption | (rw [nI_clamp (by omega)]; assumption)) ?_
    refine wl_geti (np := 31) dX6_pay_28 rfl fl_X6_136 (by decide) (by assumption) ?_
    refine ld_a3 (np := 32) dX6_pay_31 rfl ?_
    refine ciV_0 (np := 35) dX6_pay_32 rfl lk_X6_181 (by assumption) (Nat.le_of_ble_eq_true rfl) (by omega) (Nat.le_refl _) (Nat.le_refl _) (c_wornSet gb0) (fun x_32 m_32 h_32 => ?_)
    obtain ⟨rfl, q_32⟩ := h_32
    have q_32 := q_32.symm
    subst q_32
    refine ld_i2 (np := 36) dX6_pay_35 rfl ?_
    refine ciS_3 (np := 39) dX6_pay_36 rfl lk_X6_184 (Nat.le_of_ble_eq_true rfl) (by omega) (Nat.le_refl _) (Nat.le_refl _) (c_mayComeOff _ _ _) (fun x_36 m_36 h_36 => ?_)
    obtain ⟨h36, q36⟩ := h_36
    have q36 := q36.symm
    subst q36
    rw [hrP.2.2.2.2.1, hoff] at h36
    refine wl_if_ne (np := 42) (tg := 45) dX6_pay_39 rfl rfl (fun c_39 => ?_) (fun c_39 => ?_)
    · rw [cif_t (show mayC S.1.2.2.1.1 (wsI P.2.1.length) (nI j) from or1 h36 c_39)]
      refine ld_a3 (np := 46) dX6_pay_45 rfl ?_
      refine wl_geti (np := 49) dX6_pay_46 rfl fl_X6_81 (by decide) (by assumption) ?_
      refine ld_a3 (np := 50) dX6_pay_49 rfl ?_
      refine wl_getr (np := 53) dX6_pay_50 rfl fl_X6_118 rfl (by assumption) (by first | assumption | (rw [nI_clamp (by omega)]; assumption)) ?_
      refine ld_i2 (np := 54) dX6_pay_53 rfl ?_
      refine wl_iaload (np := 55) dX6_pay_54 rfl (inA_n t2 (by omega) (by decide)) ?_
      refine wl_icmp_ge (np := 58) (tg := 61) dX6_pay_55 rfl rfl (fun c_55 => ?_) (fun c_55 => ?_)
      · rw [nI_clamp (by omega), hamt, hrP.1] at c_55
        rw [cif_f (Int32.not_lt.mpr c_55)]
        refine ld_a3 (np := 62) dX6_pay_61 rfl ?_
        refine ld_i2 (np := 63) dX6_pay_62 rfl ?_
        refine cvV_1 (np := 66) dX6_pay_63 rfl lk_X6_187 (by assumption) (Nat.le_of_ble_eq_true rfl) (by omega) (Nat.le_refl _) (Nat.le_refl _) (c_payOff gb0 hrP.2.2.2.2.1 h8 hj (by omega)) (fun m_63 h_63 => ?_)
        have q_63 := h_63.symm
        subst q_63
        refine ld_a3 (np := 67) dX6_pay_66 rfl ?_
        refine wl_geti (np := 70) dX6_pay_67 rfl fl_X6_90 (by decide) (by assumption) ?_
        refine wi_ret dX6_pay_70 rfl (rfl) (Nat.le_refl _) (Nat.le_refl _) ?_
        have hrp := rep_pay hrP hj
        have hop := onl_pay me (1 + 5 + 6 * k) j P.2.1.length
        refine ⟨?_, GoodC.p hFs hR hk hop hrp⟩
        rw [hrp.2.2.2.2.1]
        unfold payP
        dsimp only
        rw [List.length_eraseIdx, if_pos hj]
      · rw [nI_clamp (by omega), hamt, hrP.1] at c_55
        rw [cif_t (Int32.not_le.mp c_55)]
        refine wl_bipush (np := 60) (v := -4) dX6_pay_58 rfl (by decide) ?_
        refine wi_ret dX6_pay_60 rfl (rfl) (Nat.le_refl _) (Nat.le_refl _) ?_
        exact ⟨rfl, GoodC.same hFs hR⟩
    · rw [cif_f (show ¬ mayC S.1.2.2.1.1 (wsI P.2.1.length) (nI j) from or0 h36 c_39)]
      refine wl_bipush (np := 44) (v := -2) dX6_pay_42 rfl (by decide) ?_
      refine wi_ret dX6_pay_44 rfl (rfl) (Nat.le_refl _) (Nat.le_refl _) ?_
      exact ⟨rfl, GoodC.same hFs hR⟩
  · unfold sp_pay
    rw [cif_f (or0 h6 c_9)]
    refine wl_iconst (np := 13) (v := -1) dX6_pay_12 rfl (rfl) ?_
    refine wi_ret dX6_pay_13 rfl (rfl) (Nat.le_refl _) (Nat.le_refl _) ?_
    exact ⟨rfl, GoodC.same hFs hR⟩
set_option maxHeartbeats 4000000 in
set_option maxRecDepth 100000 in
theorem c_dc_nights (n : Int32) (hF : FixC sh me) (hR : RepC me S) (hlen : lenW S.1) (hd : 5 ≤ d) : CI d mX6_nights sh [.ref 0, .int n] me (fun x m => x = (sp_nights S n).1 ∧ GoodC sh me m (sp_nights S n).2) := by
  have hFs := hF
  obtain ⟨z0, ⟨g0, g1, g2, g3, g4, g5, g6, g7⟩, ⟨w1, w2, w3, pp1, l1, b1, t1⟩, zs, zss⟩ := hF
  have hw1 := w1
  obtain ⟨s0, s1, s2, s3, s4, r0, r1, r2, r3, hP⟩ := w1
  have hn5 := hR.1.1.1
  have hn := hR.1.2.1
  have hdy := hR.1.2.2.2.2.2.2.1
  have hd9 := hR.1.2.2.2.2.2.2.2.1
  refine CI.mk (L := [.ref 0, .int n]) (by decide) (Nat.le_of_ble_eq_true rfl) rfl ?_
  refine ld_i1 (np := 1) dX6_nights_0 rfl ?_
  refine wl_iconst (np := 2) (v := 1) dX6_nights_1 rfl (rfl) ?_
  refine wl_bipush (np := 4) (v := 60) dX6_nights_2 rfl (by decide) ?_
  refine ciS_3 (np := 7) dX6_nights_4 rfl lk_X6_61 (Nat.le_of_ble_eq_true rfl) (by omega) (Nat.le_refl _) (Nat.le_refl _) (c_isWithin _ _ _) (fun x_4 m_4 h_4 => ?_)
  obtain ⟨rfl, q_4⟩ := h_4
  have q_4 := q_4.symm
  subst q_4
  refine wl_if_ne (np := 10) (tg := 12) dX6_nights_7 rfl rfl (fun c_7 => ?_) (fun c_7 => ?_)
  · have hin := if1 c_7
    obtain ⟨j, hj, rfl⟩ := nI_of2 (x := n) (M := 60) (n := 60) rfl (Int32.not_lt.mpr (Int32.le_trans (by decide) hin.1)) hin.2
    unfold sp_nights
    rw [cif_t hin, nI_clamp (by omega)]
    refine ld_a0 (np := 13) dX6_nights_12 rfl ?_
    refine wl_getr (np := 16) dX6_nights_13 rfl fl_X6_10 rfl (by assumption) (by assumption) ?_
    refine wl_geti (np := 19) dX6_nights_16 rfl fl_X6_161 (by decide) (by assumption) ?_
    refine ld_i1 (np := 20) dX6_nights_19 rfl ?_
    refine wl_iadd (np := 21) dX6_nights_20 rfl ?_
    refine wl_sipush (np := 24) (v := 359) dX6_nights_21 rfl (by decide) ?_
    refine wl_icmp_le (np := 27) (tg := 30) dX6_nights_24 rfl rfl (fun c_24 => ?_) (fun c_24 => ?_)
    · rw [hdy, nI_add, show (359 : Int32) = nI 359 from rfl, nI_leI (by omega) (by decide)] at c_24
      rw [if_neg (by omega)]
      refine ld_a0 (np := 31) dX6_nights_30 rfl ?_
      refine wl_getr (np := 34) dX6_nights_31 rfl fl_X6_10 rfl (by assumption) (by assumption) ?_
      refine ld_a0 (np := 35) dX6_nights_34 rfl ?_
      refine wl_getr (np := 38) dX6_nights_35 rfl fl_X6_10 rfl (by assumption) (by assumption) ?_
      refine wl_geti (np := 41) dX6_nights_38 rfl fl_X6_161 (by decide) (by assumption) ?_
      refine ld_i1 (np := 42) dX6_nights_41 rfl ?_
      refine wl_iadd (np := 43) dX6_nights_42 rfl ?_
      refine cvV_1 (np := 46) dX6_nights_43 rfl lk_X6_191 (by assumption) (Nat.le_of_ble_eq_true rfl) (by omega) (Nat.le_refl _) (Nat.le_refl _) (by rw [hdy, nI_add]; exact c_passUntil hw1 hR.1 hlen c_24 (by omega)) (fun m_43 h_43 => ?_)
      obtain ⟨h1, h2⟩ := h_43
      rw [show S.1.2.2.2.1 + j - S.1.2.2.2.1 = j by omega] at h1
      obtain ⟨I1, R1⟩ := m_43
      obtain rfl : R1 = me.2 := h2.1
      refine ld_a0 (np := 47) dX6_nights_46 rfl ?_
      refine wl_getr (np := 50) dX6_nights_47 rfl fl_X6_10 rfl (by assumption) (by assumption) ?_
      refine wl_geti (np := 53) dX6_nights_50 rfl fl_X6_161 (by decide) (by assumption) ?_
      refine wi_ret dX6_nights_53 rfl (rfl) (Nat.le_refl _) (Nat.le_refl _) ?_
      refine ⟨?_, GoodC.w hFs hR (RfK.of rfl) (fun a ha hb => h2.2 a (by omega)) h1⟩
      rw [h1.2.2.2.2.2.2.1, (nights_facts j S.1).2.1]
    · rw [hdy, nI_add, show (359 : Int32) = nI 359 from rfl, nI_leI (by omega) (by decide)] at c_24
      rw [if_pos (by omega)]
      refine wl_bipush (np := 29) (v := -3) dX6_nights_27 rfl (by decide) ?_
      refine wi_ret dX6_nights_29 rfl (rfl) (Nat.le_refl _) (Nat.le_refl _) ?_
      exact ⟨rfl, GoodC.same hFs hR⟩
  · unfold sp_nights
    rw [cif_f (if0 c_7)]
    refine wl_iconst (np := 11) (v := -1) dX6_nights_10 rfl (rfl) ?_
    refine wi_ret dX6_nights_11 rfl (rfl) (Nat.le_refl _) (Nat.le_refl _) ?_
    exact ⟨rfl, GoodC.same hFs hR⟩
set_option maxHeartbeats 4000000 in
set_option maxRecDepth 100000 in
theorem c_dc_cut (p c : Int32) (hF : FixC sh me) (hR : RepC me S) (hd : 3 ≤ d) : CI d mX6_cut sh [.ref 0, .int p, .int c] me (fun x m => x = (sp_cut S p c).1 ∧ GoodC sh me m (sp_cut S p c).2) := by
  have hFs := hF
  obtain ⟨z0, ⟨g0, g1, g2, g3, g4, g5, g6, g7⟩, ⟨w1, w2, w3, pp1, l1, b1, t1⟩, zs, zss⟩ := hF
  have hw1 := w1
  obtain ⟨s0, s1, s2, s3, s4, r0, r1, r2, r3, hP⟩ := w1
  have hn5 := hR.1.1.1
  have hn := hR.1.2.1
  refine CI.mk (L := [.ref 0, .int p, .int c, .float 0]) (by decide) (Nat.le_of_ble_eq_true rfl) rfl ?_
  refine ld_a0 (np := 1) dX6_cut_0 rfl ?_
  refine wl_getr (np := 4) dX6_cut_1 rfl fl_X6_10 rfl (by assumption) (by assumption) ?_
  refine ld_i1 (np := 5) dX6_cut_4 rfl ?_
  refine ld_i2 (np := 6) dX6_cut_5 rfl ?_
  refine ciV_2 (np := 9) dX6_cut_6 rfl lk_X6_110 (by assumption) (Nat.le_of_ble_eq_true rfl) (by omega) (Nat.le_refl _) (Nat.le_refl _) (c_hasCoat p c hw1 hR.1 (by omega)) (fun x_6 m_6 h_6 => ?_)
  obtain ⟨h6, q6⟩ := h_6
  have q6 := q6.symm
  subst q6
  refine wl_if_ne (np := 12) (tg := 14) dX6_cut_9 rfl rfl (fun c_9 => ?_) (fun c_9 => ?_)
  · have hct := or1 h6 c_9
    obtain ⟨k, P, j, hPk, rfl, hj, rfl⟩ := or1 h6 c_9
    have hk := (List.getElem?_eq_some_iff.mp hPk).1
    have hrP := hR.1.1.2 k P hPk
    have h8 := hrP.2.2.2.2.2.1
    obtain ⟨ga, gb⟩ := hP k (by omega)
    have sP := gb.1
    have hal := hR.1.2.2.2.2.1
    have hma := hR.1.2.2.2.2.2.1
    unfold sp_cut
    rw [cif_t hct, getP_nI hPk (by omega), nI_clamp (by omega), nI_clamp (by omega)]
    refine ld_a0 (np := 15) dX6_cut_14 rfl ?_
    refine wl_getr (np := 18) dX6_cut_15 rfl fl_X6_10 rfl (by assumption) (by first | assumption | (rw [nI_clamp (by omega)]; assumption)) ?_
    refine wl_getr (np := 21) dX6_cut_18 rfl fl_X6_69 rfl (by assumption) (by first | assumption | (rw [nI_clamp (by omega)]; assumption)) ?_
    refine ld_i1 (np := 22) dX6_cut_21 rfl ?_
    refine wl_aaload (np := 23) dX6_cut_22 rfl (by assumption) (by decide) (vp_in_nI (by omega) (by decide)) (by first | assumption | (rw [nI_clamp (by omega)]; assumption)) ?_
    refine st_a3 (np := 24) dX6_cut_23 rfl (by decide) rfl ?_
    refine ld_a3 (np := 25) dX6_cut_24 rfl ?_
    refine ld_i2 (np := 26) dX6_cut_25 rfl ?_
    refine ciV_1 (np := 29) dX6_cut_26 rfl lk_X6_194 (by assumption) (Nat.le_of_ble_eq_true rfl) (by omega) (Nat.le_refl _) (Nat.le_refl _) (c_isBetween _ gb) (fun x_26 m_26 h_26 => ?_)
    obtain ⟨rfl, q_26⟩ := h_26
    have q_26 := q_26.symm
    subst q_26
    refine wl_if_ne (np := 32) (tg := 35) dX6_cut_29 rfl rfl (fun c_29 => ?_) (fun c_29 => ?_)
    · rw [hrP.2.2.2.2.1] at c_29
      rw [cif_t (if1 c_29)]
      refine ld_a0 (np := 36) dX6_cut_35 rfl ?_
      refine wl_getr (np := 39) dX6_cut_36 rfl fl_X6_10 rfl (by assumption) (by first | assumption | (rw [nI_clamp (by omega)]; assumption)) ?_
      refine wl_geti (np := 42) dX6_cut_39 rfl fl_X6_170 (by decide) (by assumption) ?_
      refine ld_a0 (np := 43) dX6_cut_42 rfl ?_
      refine wl_getr (np := 46) dX6_cut_43 rfl fl_X6_10 rfl (by assumption) (by first | assumption | (rw [nI_clamp (by omega)]; assumption)) ?_
      refine wl_geti (np := 49) dX6_cut_46 rfl fl_X6_139 (by decide) (by assumption) ?_
      refine wl_icmp_lt (np := 52) (tg := 55) dX6_cut_49 rfl rfl (fun c_49 => ?_) (fun c_49 => ?_)
      · rw [hal, hma] at c_49
        rw [cif_t c_49]
        refine ld_a3 (np := 56) dX6_cut_55 rfl ?_
        refine ld_i2 (np := 57) dX6_cut_56 rfl ?_
        refine cvV_1 (np := 60) dX6_cut_57 rfl lk_X6_197 (by assumption) (Nat.le_of_ble_eq_true rfl) (by omega) (Nat.le_refl _) (Nat.le_refl _) (c_takeOff gb hrP.2.2.2.2.1 h8 hj) (fun m_57 h_57 => ?_)
        have q_57 := h_57.symm
        subst q_57
        refine ld_a0 (np := 61) dX6_cut_60 rfl ?_
        refine wl_getr (np := 64) dX6_cut_61 rfl fl_X6_10 rfl (by assumption) (by first | assumption | (rw [nI_clamp (by omega)]; assumption)) ?_
        refine wl_dup (np := 65) dX6_cut_64 rfl rfl ?_
        refine wl_geti (np := 68) dX6_cut_65 rfl fl_X6_170 (by decide) (by assumption) ?_
        refine wl_iconst (np := 69) (v := 1) dX6_cut_68 rfl (rfl) ?_
        refine wl_iadd (np := 70) dX6_cut_69 rfl ?_
        refine wl_puti (np := 73) dX6_cut_70 rfl fl_X6_170 nf_5_9 rfl (by assumption) ?_
        refine ld_a3 (np := 74) dX6_cut_73 rfl ?_
        refine wl_geti (np := 77) dX6_cut_74 rfl fl_X6_90 (by decide) (by assumption) ?_
        refine wi_ret dX6_cut_77 rfl (rfl) (Nat.le_refl _) (Nat.le_refl _) ?_
        have hrp := rep_take hrP hj
        have hop := onl_take me (1 + 5 + 6 * k) j P.2.1.length
        generalize hM : takeM me (1 + 5 + 6 * k) j P.2.1.length = m1 at hrp hop ⊢
        have hgd := GoodC.p hFs hR hk hop hrp
        have e9 : gI m1 1 9 = S.1.2.2.1.2.2 := (hop.g (by omega)).trans hma
        rw [e9, gI_uI_ne (by omega)]
        have e5 : gI m1 (1 + 5 + 6 * k) 5 = nI (P.2.1.length - 1) := by
          rw [hrp.2.2.2.2.1]
          unfold takeP
          dsimp only
          rw [List.length_eraseIdx, if_pos hj]
        refine ⟨e5, ?_⟩
        have hO2 : Onl me (uI m1 1 9 (S.1.2.2.1.2.2 + 1)) 1 36 := (hop.wd (by omega) (by omega)).tr ⟨rfl, fun x hx => gI_uI_ne (by omega)⟩
        refine GoodC.w hFs hR (RfK.of hO2.1) (fun a h1 h2 => hO2.2 a (by omega)) ?_
        obtain ⟨y1, y2, y3, y4, y5, y6, y7, y8, y9, y10, y11⟩ := hgd.1.1
        have ne : ∀ y, y ≠ 9 → gI (uI m1 1 9 (S.1.2.2.1.2.2 + 1)) 1 y = gI m1 1 y := fun y hy => gI_uI_nb hy
        have ne2 : ∀ x y, x ≠ 1 → gI (uI m1 1 9 (S.1.2.2.1.2.2 + 1)) x y = gI m1 x y := fun x y hx => congrFun (gI_uI_ne hx) y
        exact ⟨⟨y1.1, fun p P hp => (y1.2 p P hp).fr (fun a ha hb => gI_uI_ne (by omega))⟩, (ne _ (by omega)).trans y2, fun i hi => (ne2 _ _ (by omega)).trans (y3 i hi), (ne _ (by omega)).trans y4, (ne _ (by omega)).trans y5, gI_uI_self _ _ _ _, (ne _ (by omega)).trans y7, y8, (ne _ (by omega)).trans y9, y10, fun k a hk => ⟨(ne2 _ _ (by omega)).trans (y11 k a hk).1, (ne2 _ _ (by omega)).trans (y11 k a hk).2⟩⟩
      · rw [hal, hma] at c_49
        rw [cif_f c_49]
        refine wl_bipush (np := 54) (v := -4) dX6_cut_52 rfl (by decide) ?_
        refine wi_ret dX6_cut_54 rfl (rfl) (Nat.le_refl _) (Nat.le_refl _) ?_
        exact ⟨rfl, GoodC.same hFs hR⟩
    · rw [hrP.2.2.2.2.1] at c_29
      rw [cif_f (if0 c_29)]
      refine wl_bipush (np := 34) (v := -2) dX6_cut_32 rfl (by decide) ?_
      refine wi_ret dX6_cut_34 rfl (rfl) (Nat.le_refl _) (Nat.le_refl _) ?_
      exact ⟨rfl, GoodC.same hFs hR⟩
  · unfold sp_cut
    rw [cif_f (or0 h6 c_9)]
    refine wl_iconst (np := 13) (v := -1) dX6_cut_12 rfl (rfl) ?_
    refine wi_ret dX6_cut_13 rfl (rfl) (Nat.le_refl _) (Nat.le_refl _) ?_
    exact ⟨rfl, GoodC.same hFs hR⟩
end DC4
