section DC7
variable {sh : List Shp} {me : Mem} {d kk : Nat} {S : St}
theorem rfk_plan {m : Mem} {r : Option Nat} (h : m.2 = (uR me 112 3 r).2) : RfK me m := fun a b hab => by
  have e : gR m a b = gR (uR me 112 3 r) a b := by unfold gR; rw [h]
  rw [e, gR_uR, if_neg (by omega)]
set_option maxHeartbeats 4000000 in
set_option maxRecDepth 100000 in
theorem c_dc_free (p w : Int32) (hF : FixC sh me) (hR : RepC me S) (hwf : wfW kk S.1) (hkk : kk ≤ 64) (hd : 18 ≤ d) : CI d mX6_free sh [.ref 0, .int p, .int w] me (fun x m => x = (sp_free S p w).1 ∧ GoodC sh me m (sp_free S p w).2) := by
  have hFs := hF
  obtain ⟨z0, ⟨g0, g1, g2, g3, g4, g5, g6, g7⟩, ⟨w1, w2, w3, pp1, l1, b1, t1⟩, zs, zss⟩ := hF
  have hw1 := w1
  obtain ⟨s0, s1, s2, s3, s4, r0, r1, r2, r3, hP⟩ := w1
  have hn5 := hR.1.1.1
  have hn := hR.1.2.1
  have hoff := hR.1.2.2.2.1
  refine CI.mk (L := [.ref 0, .int p, .int w, .float 0]) (by decide) (Nat.le_of_ble_eq_true rfl) rfl ?_
  have bad : ¬ (isPn S.1.1 p ∧ inR w 0 7) → ∀ L4, Wa mX6_free (0, fun _ => 0) d 0 0 sh.length (PI sh (fun x m => x = (sp_free S p w).1 ∧ GoodC sh me m (sp_free S p w).2)) 21 L4 [] sh me 0 0 := by
    intro hb L4
    unfold sp_free
    rw [cif_f hb]
    refine wl_iconst (np := 22) (v := -1) dX6_free_21 rfl (rfl) ?_
    refine wi_ret dX6_free_22 rfl (rfl) (Nat.le_refl _) (Nat.le_refl _) ?_
    exact ⟨rfl, GoodC.same hFs hR⟩
  refine ld_a0 (np := 1) dX6_free_0 rfl ?_
  refine wl_getr (np := 4) dX6_free_1 rfl fl_X6_10 rfl (by assumption) (by first | assumption | (rw [nI_clamp (by omega)]; assumption)) ?_
  refine ld_i1 (np := 5) dX6_free_4 rfl ?_
  refine ciV_1 (np := 8) dX6_free_5 rfl lk_X6_77 (by assumption) (Nat.le_of_ble_eq_true rfl) (by omega) (Nat.le_refl _) (Nat.le_refl _) (c_hasPerson p hw1 hR.1 (by omega)) (fun x_5 m_5 h_5 => ?_)
  obtain ⟨h5, q5⟩ := h_5
  have q5 := q5.symm
  subst q5
  refine wl_if_eq (np := 11) (tg := 21) dX6_free_8 rfl rfl (fun c_8 => ?_) (fun c_8 => ?_)
  · exact bad (fun h => or0 h5 c_8 h.1) _
  · refine ld_i2 (np := 12) dX6_free_11 rfl ?_
    refine wl_iconst (np := 13) (v := 0) dX6_free_12 rfl (rfl) ?_
    refine wl_bipush (np := 15) (v := 7) dX6_free_13 rfl (by decide) ?_
    refine ciS_3 (np := 18) dX6_free_15 rfl lk_X6_61 (Nat.le_of_ble_eq_true rfl) (by omega) (Nat.le_refl _) (Nat.le_refl _) (c_isWithin _ _ _) (fun x_15 m_15 h_15 => ?_)
    obtain ⟨rfl, q_15⟩ := h_15
    have q_15 := q_15.symm
    subst q_15
    refine wl_if_ne (np := 21) (tg := 23) dX6_free_18 rfl rfl (fun c_18 => ?_) (fun c_18 => ?_)
    · have hgood : isPn S.1.1 p ∧ inR w 0 7 := ⟨or1 h5 c_8, if1 c_18⟩
      obtain ⟨k, hk, rfl⟩ := hgood.1
      obtain ⟨wn, hwn, rfl⟩ := nI_of2 (x := w) (M := 7) (n := 7) rfl (Int32.not_lt.mpr hgood.2.1) hgood.2.2
      obtain ⟨P, hPk⟩ : ∃ P, S.1.1[k]? = some P := ⟨_, List.getElem?_eq_getElem hk⟩
      have hrP := hR.1.1.2 k P hPk
      have h8 := hrP.2.2.2.2.2.1
      obtain ⟨ga, gb⟩ := hP k (by omega)
      have sP := gb.1
      have sPl := l1.1
      unfold sp_free
      rw [cif_t hgood, getP_nI hPk (by omega)]
      refine ld_a0 (np := 24) dX6_free_23 rfl ?_
      refine wl_getr (np := 27) dX6_free_24 rfl fl_X6_10 rfl (by assumption) (by first | assumption | (rw [nI_clamp (by omega)]; assumption)) ?_
      refine wl_getr (np := 30) dX6_free_27 rfl fl_X6_69 rfl (by assumption) (by first | assumption | (rw [nI_clamp (by omega)]; assumption)) ?_
      refine ld_i1 (np := 31) dX6_free_30 rfl ?_
      refine wl_aaload (np := 32) dX6_free_31 rfl (by assumption) (by decide) (vp_in_nI (by omega) (by decide)) (by first | assumption | (rw [nI_clamp (by omega)]; assumption)) ?_
      refine st_a3 (np := 33) dX6_free_32 rfl (by decide) rfl ?_
      refine ld_a3 (np := 34) dX6_free_33 rfl ?_
      refine wl_geti (np := 37) dX6_free_34 rfl fl_X6_90 (by decide) (by assumption) ?_
      refine wl_bipush (np := 39) (v := 6) dX6_free_37 rfl (by decide) ?_
      refine wl_icmp_le (np := 42) (tg := 45) dX6_free_39 rfl rfl (fun c_39 => ?_) (fun c_39 => ?_)
      · rw [hrP.2.2.2.2.1, show (6 : Int32) = nI 6 from rfl, nI_leI (by omega) (by decide)] at c_39
        rw [if_neg (by omega)]
        obtain ⟨o1, o2, o3, o4⟩ := plan_ok hrP (hwf.1 P (mem_of_get hPk)) (by have := hwf.2.1; omega)
        refine ld_a0 (np := 46) dX6_free_45 rfl ?_
        refine wl_getr (np := 49) dX6_free_46 rfl fl_X6_32 rfl (by assumption) (by first | assumption | (rw [nI_clamp (by omega)]; assumption)) ?_
        refine ld_a3 (np := 50) dX6_free_49 rfl ?_
        refine ld_a0 (np := 51) dX6_free_50 rfl ?_
        refine wl_getr (np := 54) dX6_free_51 rfl fl_X6_10 rfl (by assumption) (by first | assumption | (rw [nI_clamp (by omega)]; assumption)) ?_
        refine wl_geti (np := 57) dX6_free_54 rfl fl_X6_136 (by decide) (by assumption) ?_
        refine cvV_2 (np := 60) dX6_free_57 rfl lk_X6_224 (by assumption) (Nat.le_of_ble_eq_true rfl) (by omega) (Nat.le_refl _) (Nat.le_refl _) (c_plan (gI me 1 7) l1 gb (by omega) hrP.2.2.2.2.1 (by omega) o4 o1 o2 o3 (by omega)) (fun m_57 h_57 => ?_)
        obtain ⟨⟨h1, h2⟩, h3⟩ := h_57
        rw [plan_eq hrP (hwf.len P (mem_of_get hPk)) (by omega), hoff] at h3
        obtain ⟨b1', b2', b3', b4'⟩ := h3
        have hrf := rfk_plan h1
        have hg : GoodC sh me m_57 S := GoodC.w hFs hR hrf (fun a ha hb => h2 a (by omega)) (hR.1.fr (fun a ha hb => h2 a (by omega)))
        obtain ⟨z0', ⟨g0', g1', g2', g3', g4', g5', g6', g7'⟩, ⟨w1', w2', w3', pp1', l1', b1'', t1'⟩, zs', zss'⟩ := hg.2.1
        obtain ⟨pl0, pl1, pl2, pl3, pl4, pu0, pu1, pu2, pu3⟩ := l1'
        have hlen := plan_len P S.1.2.2.1.1
        have e5 : gI m_57 (1 + 5 + 6 * k) 5 = nI P.2.1.length := (congrFun (h2 _ (by omega)) 5).trans hrP.2.2.2.2.1
        unfold freeA
        refine ld_a0 (np := 61) dX6_free_60 rfl ?_
        refine wl_getr (np := 64) dX6_free_61 rfl fl_X6_32 rfl (by assumption) (by first | assumption | (rw [nI_clamp (by omega)]; assumption)) ?_
        refine wl_geti (np := 67) dX6_free_64 rfl fl_X6_228 (by decide) (by assumption) ?_
        refine wl_sipush (np := 70) (v := 360) dX6_free_67 rfl (by decide) ?_
        refine wl_icmp_le (np := 73) (tg := 76) dX6_free_70 rfl rfl (fun c_70 => ?_) (fun c_70 => ?_)
        · rw [b1', show (360 : Int32) = nI 360 from rfl, nI_leI (by omega) (by decide)] at c_70
          rw [if_neg (by omega)]
          refine ld_i2 (np := 77) dX6_free_76 rfl ?_
          refine wl_if_ne (np := 80) (tg := 88) dX6_free_77 rfl rfl (fun c_77 => ?_) (fun c_77 => ?_)
          · rw [show (0 : Int32) = nI 0 from rfl, nI_eq (by omega) (by omega)] at c_77
            rw [if_neg (show ¬ nI wn = 0 by rw [show (0 : Int32) = nI 0 from rfl, nI_eq (by omega) (by omega)]; exact c_77)]
            refine ld_i2 (np := 89) dX6_free_88 rfl ?_
            refine wl_iconst (np := 90) (v := 1) dX6_free_89 rfl (rfl) ?_
            refine wl_icmp_ne (np := 93) (tg := 101) dX6_free_90 rfl rfl (fun c_90 => ?_) (fun c_90 => ?_)
            · rw [if_neg c_90]
              rw [show (1 : Int32) = nI 1 from rfl, nI_eq (by omega) (by omega)] at c_90
              have e2 : nI wn - 2 = nI (wn - 2) := nI_subI (b := 2) (by omega)
              rw [e2]
              refine ld_i2 (np := 102) dX6_free_101 rfl ?_
              refine wl_iconst (np := 103) (v := 2) dX6_free_102 rfl (rfl) ?_
              refine wl_isub (np := 104) dX6_free_103 rfl ?_
              refine ld_a3 (np := 105) dX6_free_104 rfl ?_
              refine wl_geti (np := 108) dX6_free_105 rfl fl_X6_90 (by decide) (by assumption) ?_
              refine wl_icmp_ge (np := 111) (tg := 125) dX6_free_108 rfl rfl (fun c_108 => ?_) (fun c_108 => ?_)
              · rw [e2, e5] at c_108
                rw [if_neg (Int32.not_lt.mpr c_108)]
                refine wl_bipush (np := 127) (v := -4) dX6_free_125 rfl (by decide) ?_
                refine wi_ret dX6_free_127 rfl (rfl) (Nat.le_refl _) (Nat.le_refl _) ?_
                exact ⟨rfl, hg⟩
              · rw [e2, e5] at c_108
                have c108 := Int32.not_le.mp c_108
                rw [if_pos c108]
                rw [nI_ltI (by omega) (by omega)] at c108
                refine ld_a0 (np := 112) dX6_free_111 rfl ?_
                refine wl_getr (np := 115) dX6_free_112 rfl fl_X6_32 rfl (by assumption) (by first | assumption | (rw [nI_clamp (by omega)]; assumption)) ?_
                refine wl_getr (np := 118) dX6_free_115 rfl fl_X6_234 rfl (by assumption) (by first | assumption | (rw [nI_clamp (by omega)]; assumption)) ?_
                refine ld_i2 (np := 119) dX6_free_118 rfl ?_
                refine wl_iconst (np := 120) (v := 2) dX6_free_119 rfl (rfl) ?_
                refine wl_isub (np := 121) dX6_free_120 rfl ?_
                refine wl_iaload (np := 122) dX6_free_121 rfl (by rw [e2]; exact inA_n pl4 (by omega) (by decide)) ?_
                refine wl_goto (tg := 127) dX6_free_122 rfl ?_
                refine wi_ret dX6_free_127 rfl (rfl) (Nat.le_refl _) (Nat.le_refl _) ?_
                refine ⟨?_, hg⟩
                rw [e2, nI_clamp (by omega)]
                obtain ⟨o, ho⟩ : ∃ o, (planS P S.1.2.2.1.1).2.2[wn - 2]? = some o := ⟨_, List.getElem?_eq_getElem (by omega)⟩
                rw [ho]
                exact (b4' (by omega)).2 _ _ ho
            · rw [if_pos c_90]
              refine ld_a0 (np := 94) dX6_free_93 rfl ?_
              refine wl_getr (np := 97) dX6_free_94 rfl fl_X6_32 rfl (by assumption) (by first | assumption | (rw [nI_clamp (by omega)]; assumption)) ?_
              refine wl_geti (np := 100) dX6_free_97 rfl fl_X6_231 (by decide) (by assumption) ?_
              refine wi_ret dX6_free_100 rfl (rfl) (Nat.le_refl _) (Nat.le_refl _) ?_
              exact ⟨b3', hg⟩
          · rw [if_pos c_77]
            refine ld_a0 (np := 81) dX6_free_80 rfl ?_
            refine wl_getr (np := 84) dX6_free_81 rfl fl_X6_32 rfl (by assumption) (by first | assumption | (rw [nI_clamp (by omega)]; assumption)) ?_
            refine wl_geti (np := 87) dX6_free_84 rfl fl_X6_228 (by decide) (by assumption) ?_
            refine wi_ret dX6_free_87 rfl (rfl) (Nat.le_refl _) (Nat.le_refl _) ?_
            exact ⟨b1', hg⟩
        · rw [b1', show (360 : Int32) = nI 360 from rfl, nI_leI (by omega) (by decide)] at c_70
          rw [if_pos (by omega)]
          refine wl_bipush (np := 75) (v := -4) dX6_free_73 rfl (by decide) ?_
          refine wi_ret dX6_free_75 rfl (rfl) (Nat.le_refl _) (Nat.le_refl _) ?_
          exact ⟨rfl, hg⟩
      · rw [hrP.2.2.2.2.1, show (6 : Int32) = nI 6 from rfl, nI_leI (by omega) (by decide)] at c_39
        rw [if_pos (by omega)]
        refine wl_bipush (np := 44) (v := -3) dX6_free_42 rfl (by decide) ?_
        refine wi_ret dX6_free_44 rfl (rfl) (Nat.le_refl _) (Nat.le_refl _) ?_
        exact ⟨rfl, GoodC.same hFs hR⟩
    · exact bad (fun h => if0 c_18 h.2) _
set_option maxHeartbeats 4000000 in
set_option maxRecDepth 100000 in
theorem c_dc_saves (p c : Int32) (hF : FixC sh me) (hR : RepC me S) (hwf : wfW kk S.1) (hkk : kk ≤ 64) (hd : 18 ≤ d) : CI d mX6_saves sh [.ref 0, .int p, .int c] me (fun x m => x = (sp_saves S p c).1 ∧ GoodC sh me m (sp_saves S p c).2) := by
  have hFs := hF
  obtain ⟨z0, ⟨g0, g1, g2, g3, g4, g5, g6, g7⟩, ⟨w1, w2, w3, pp1, l1, b1, t1⟩, zs, zss⟩ := hF
  have hw1 := w1
  obtain ⟨s0, s1, s2, s3, s4, r0, r1, r2, r3, hP⟩ := w1
  have hn5 := hR.1.1.1
  have hn := hR.1.2.1
  have hoff := hR.1.2.2.2.1
  refine CI.mk (L := [.ref 0, .int p, .int c, .float 0, .float 0]) (by decide) (Nat.le_of_ble_eq_true rfl) rfl ?_
  refine ld_a0 (np := 1) dX6_saves_0 rfl ?_
  refine wl_getr (np := 4) dX6_saves_1 rfl fl_X6_10 rfl (by assumption) (by first | assumption | (rw [nI_clamp (by omega)]; assumption)) ?_
  refine ld_i1 (np := 5) dX6_saves_4 rfl ?_
  refine ld_i2 (np := 6) dX6_saves_5 rfl ?_
  refine ciV_2 (np := 9) dX6_saves_6 rfl lk_X6_110 (by assumption) (Nat.le_of_ble_eq_true rfl) (by omega) (Nat.le_refl _) (Nat.le_refl _) (c_hasCoat p c hw1 hR.1 (by omega)) (fun x_6 m_6 h_6 => ?_)
  obtain ⟨h6, q6⟩ := h_6
  have q6 := q6.symm
  subst q6
  refine wl_if_ne (np := 12) (tg := 14) dX6_saves_9 rfl rfl (fun c_9 => ?_) (fun c_9 => ?_)
  · have hct := or1 h6 c_9
    obtain ⟨k, P, j, hPk, rfl, hj, rfl⟩ := or1 h6 c_9
    have hk := (List.getElem?_eq_some_iff.mp hPk).1
    have hrP := hR.1.1.2 k P hPk
    have h8 := hrP.2.2.2.2.2.1
    obtain ⟨ga, gb⟩ := hP k (by omega)
    have sP := gb.1
    have sPl := l1.1
    have sSp := pp1.1
    unfold sp_saves
    rw [cif_t hct, getP_nI hPk (by omega), nI_clamp (by omega)]
    refine ld_a0 (np := 15) dX6_saves_14 rfl ?_
    refine wl_getr (np := 18) dX6_saves_15 rfl fl_X6_10 rfl (by assumption) (by first | assumption | (rw [nI_clamp (by omega)]; assumption)) ?_
    refine wl_getr (np := 21) dX6_saves_18 rfl fl_X6_69 rfl (by assumption) (by first | assumption | (rw [nI_clamp (by omega)]; assumption)) ?_
    refine ld_i1 (np := 22) dX6_saves_21 rfl ?_
    refine wl_aaload (np := 23) dX6_saves_22 rfl (by assumption) (by decide) (vp_in_nI (by omega) (by decide)) (by first | assumption | (rw [nI_clamp (by omega)]; assumption)) ?_
    refine st_a3 (np := 24) dX6_saves_23 rfl (by decide) rfl ?_
    refine ld_a3 (np := 25) dX6_saves_24 rfl ?_
    refine wl_geti (np := 28) dX6_saves_25 rfl fl_X6_90 (by decide) (by assumption) ?_
    refine wl_bipush (np := 30) (v := 6) dX6_saves_28 rfl (by decide) ?_
    refine wl_icmp_le (np := 33) (tg := 36) dX6_saves_30 rfl rfl (fun c_30 => ?_) (fun c_30 => ?_)
    · rw [hrP.2.2.2.2.1, show (6 : Int32) = nI 6 from rfl, nI_leI (by omega) (by decide)] at c_30
      rw [if_neg (by omega)]
      refine ld_a3 (np := 37) dX6_saves_36 rfl ?_
      refine ld_i2 (np := 38) dX6_saves_37 rfl ?_
      refine ciV_1 (np := 41) dX6_saves_38 rfl lk_X6_194 (by assumption) (Nat.le_of_ble_eq_true rfl) (by omega) (Nat.le_refl _) (Nat.le_refl _) (c_isBetween _ gb) (fun x_38 m_38 h_38 => ?_)
      obtain ⟨rfl, q_38⟩ := h_38
      have q_38 := q_38.symm
      subst q_38
      refine wl_if_ne (np := 44) (tg := 47) dX6_saves_41 rfl rfl (fun c_41 => ?_) (fun c_41 => ?_)
      · rw [hrP.2.2.2.2.1] at c_41
        rw [cif_t (if1 c_41)]
        have hPok := hwf.1 P (mem_of_get hPk)
        have hlp := hwf.len P (mem_of_get hPk)
        have hday := hwf.2.1
        obtain ⟨o1, o2, o3, o4⟩ := plan_ok hrP hPok (by omega)
        refine ld_a0 (np := 48) dX6_saves_47 rfl ?_
        refine wl_getr (np := 51) dX6_saves_48 rfl fl_X6_32 rfl (by assumption) (by first | assumption | (rw [nI_clamp (by omega)]; assumption)) ?_
        refine ld_a3 (np := 52) dX6_saves_51 rfl ?_
        refine ld_a0 (np := 53) dX6_saves_52 rfl ?_
        refine wl_getr (np := 56) dX6_saves_53 rfl fl_X6_10 rfl (by assumption) (by first | assumption | (rw [nI_clamp (by omega)]; assumption)) ?_
        refine wl_geti (np := 59) dX6_saves_56 rfl fl_X6_136 (by decide) (by assumption) ?_
        refine cvV_2 (np := 62) dX6_saves_59 rfl lk_X6_224 (by assumption) (Nat.le_of_ble_eq_true rfl) (by omega) (Nat.le_refl _) (Nat.le_refl _) (c_plan (gI me 1 7) l1 gb (by omega) hrP.2.2.2.2.1 (by omega) o4 o1 o2 o3 (by omega)) (fun m_59 h_59 => ?_)
        obtain ⟨⟨h1, h2⟩, h3⟩ := h_59
        rw [plan_eq hrP hlp (by omega), hoff] at h3
        obtain ⟨b1', b2', b3', b4'⟩ := h3
        have hrf := rfk_plan h1
        have hg : GoodC sh me m_59 S := GoodC.w hFs hR hrf (fun a ha hb => h2 a (by omega)) (hR.1.fr (fun a ha hb => h2 a (by omega)))
        have hF' := hg.2.1
        obtain ⟨z0', ⟨g0', g1', g2', g3', g4', g5', g6', g7'⟩, ⟨w1', w2', w3', pp1', l1', b1'', t1'⟩, zs', zss'⟩ := hg.2.1
        have hrP1 : RepP m_59 (1 + 5 + 6 * k) P := hrP.fr (fun a ha hb => h2 a (by omega))
        obtain ⟨s0', s1', s2', s3', s4', r0', r1', r2', r3', hP'⟩ := w1'
        have gb' := (hP' k (by omega)).2
        refine ld_a0 (np := 63) dX6_saves_62 rfl ?_
        refine wl_getr (np := 66) dX6_saves_63 rfl fl_X6_32 rfl (by assumption) (by first | assumption | (rw [nI_clamp (by omega)]; assumption)) ?_
        refine wl_geti (np := 69) dX6_saves_66 rfl fl_X6_228 (by decide) (by assumption) ?_
        refine st_i4 (np := 71) dX6_saves_69 rfl (by decide) rfl ?_
        refine ld_a0 (np := 72) dX6_saves_71 rfl ?_
        refine wl_getr (np := 75) dX6_saves_72 rfl fl_X6_25 rfl (by assumption) (by first | assumption | (rw [nI_clamp (by omega)]; assumption)) ?_
        refine ld_a3 (np := 76) dX6_saves_75 rfl ?_
        refine cvV_1 (np := 79) dX6_saves_76 rfl lk_X6_237 (by assumption) (Nat.le_of_ble_eq_true rfl) (by omega) (Nat.le_refl _) (Nat.le_refl _) (c_becomeLike pp1' gb' (by omega) (by omega)) (fun m_76 h_76 => ?_)
        have hrL := rep_like (me := m_59) (q := 106) hrP1 (by omega)
        have hoL := onl_like m_59 106 (1 + 5 + 6 * k)
        rw [← h_76] at hrL hoL
        clear h_76
        obtain ⟨I2, R2⟩ := m_76
        obtain rfl : R2 = m_59.2 := hoL.1
        refine ld_a0 (np := 80) dX6_saves_79 rfl ?_
        refine wl_getr (np := 83) dX6_saves_80 rfl fl_X6_25 rfl (by assumption) (by first | assumption | (rw [nI_clamp (by omega)]; assumption)) ?_
        refine ld_i2 (np := 84) dX6_saves_83 rfl ?_
        refine cvV_1 (np := 87) dX6_saves_84 rfl lk_X6_197 (by assumption) (Nat.le_of_ble_eq_true rfl) (by omega) (Nat.le_refl _) (Nat.le_refl _) (c_takeOff (c := j) (pp1'.of rfl) hrL.2.2.2.2.1 h8 hj) (fun m_84 h_84 => ?_)
        have hrT := rep_take hrL hj
        have hoT := onl_take (I2, m_59.2) 106 j P.2.1.length
        rw [← h_84] at hrT hoT
        clear h_84
        obtain ⟨I3, R3⟩ := m_84
        obtain rfl : R3 = m_59.2 := hoT.1
        have hO3 := hoL.tr hoT
        have hokT : okPr kk S.1.2.2.2.1 (takeP P j) := ⟨hPok.1, hPok.2.1, hPok.2.2.1, fun co hco => hPok.2.2.2.1 co (List.mem_of_mem_eraseIdx hco), hPok.2.2.2.2⟩
        have hlT : (takeP P j).2.1.length = P.2.1.length - 1 := by
          unfold takeP
          dsimp only
          rw [List.length_eraseIdx, if_pos hj]
        obtain ⟨u1, u2, u3, u4⟩ := plan_ok hrT hokT (by omega)
        have e7 : gI (I3, m_59.2) 1 7 = S.1.2.2.1.1 := (hO3.g (by omega)).trans ((congrFun (h2 _ (by omega)) 7).trans hoff)
        refine ld_a0 (np := 88) dX6_saves_87 rfl ?_
        refine wl_getr (np := 91) dX6_saves_88 rfl fl_X6_32 rfl (by assumption) (by first | assumption | (rw [nI_clamp (by omega)]; assumption)) ?_
        refine ld_a0 (np := 92) dX6_saves_91 rfl ?_
        refine wl_getr (np := 95) dX6_saves_92 rfl fl_X6_25 rfl (by assumption) (by first | assumption | (rw [nI_clamp (by omega)]; assumption)) ?_
        refine ld_a0 (np := 96) dX6_saves_95 rfl ?_
        refine wl_getr (np := 99) dX6_saves_96 rfl fl_X6_10 rfl (by assumption) (by first | assumption | (rw [nI_clamp (by omega)]; assumption)) ?_
        refine wl_geti (np := 102) dX6_saves_99 rfl fl_X6_136 (by decide) (by assumption) ?_
        refine cvV_2 (np := 105) dX6_saves_102 rfl lk_X6_224 (by assumption) (Nat.le_of_ble_eq_true rfl) (by omega) (Nat.le_refl _) (Nat.le_refl _) (c_plan (gI (I3, m_59.2) 1 7) (l1'.of rfl) (pp1'.of rfl) (by omega) hrT.2.2.2.2.1 (by omega) u4 u1 u2 u3 (by omega)) (fun m_102 h_102 => ?_)
        obtain ⟨⟨v1, v2⟩, v3⟩ := h_102
        rw [plan_eq hrT (fun co hco => hlp co (List.mem_of_mem_eraseIdx hco)) (by omega), e7] at v3
        obtain ⟨d1', d2', d3', d4'⟩ := v3
        have hrf3 : RfK (I3, m_59.2) m_102 := rfk_plan v1
        have hrf4 : RfK me m_102 := (hrf.tr (RfK.of rfl)).tr hrf3
        have hm4 : ∀ a, ¬ (106 ≤ a ∧ a < 123) → m_102.1 a = me.1 a := fun a ha => (v2 a (by omega)).trans ((hO3.2 a (by omega)).trans (h2 a (by omega)))
        have hg4 : GoodC sh me m_102 S := GoodC.w hFs hR hrf4 (fun a ha hb => hm4 a (by omega)) (hR.1.fr (fun a ha hb => hm4 a (by omega)))
        have g04 := hg4.2.1.2.1
        obtain ⟨n0, n1, n2, n3, n4, n5, n6, n7⟩ := g04
        refine ld_i4 (np := 107) dX6_saves_105 rfl ?_
        refine ld_a0 (np := 108) dX6_saves_107 rfl ?_
        refine wl_getr (np := 111) dX6_saves_108 rfl fl_X6_32 rfl (by assumption) (by first | assumption | (rw [nI_clamp (by omega)]; assumption)) ?_
        refine wl_geti (np := 114) dX6_saves_111 rfl fl_X6_228 (by decide) (by assumption) ?_
        refine wl_isub (np := 115) dX6_saves_114 rfl ?_
        refine wi_ret dX6_saves_115 rfl (rfl) (Nat.le_refl _) (Nat.le_refl _) ?_
        exact ⟨by rw [b1', d1'], hg4⟩
      · rw [hrP.2.2.2.2.1] at c_41
        rw [cif_f (if0 c_41)]
        refine wl_bipush (np := 46) (v := -2) dX6_saves_44 rfl (by decide) ?_
        refine wi_ret dX6_saves_46 rfl (rfl) (Nat.le_refl _) (Nat.le_refl _) ?_
        exact ⟨rfl, GoodC.same hFs hR⟩
    · rw [hrP.2.2.2.2.1, show (6 : Int32) = nI 6 from rfl, nI_leI (by omega) (by decide)] at c_30
      rw [if_pos (by omega)]
      refine wl_bipush (np := 35) (v := -3) dX6_saves_33 rfl (by decide) ?_
      refine wi_ret dX6_saves_35 rfl (rfl) (Nat.le_refl _) (Nat.le_refl _) ?_
      exact ⟨rfl, GoodC.same hFs hR⟩
  · unfold sp_saves
    rw [cif_f (or0 h6 c_9)]
    refine wl_iconst (np := 13) (v := -1) dX6_saves_12 rfl (rfl) ?_
    refine wi_ret dX6_saves_13 rfl (rfl) (Nat.le_refl _) (Nat.le_refl _) ?_
    exact ⟨rfl, GoodC.same hFs hR⟩
theorem pow_le8 : ∀ n, n ≤ 8 → ((1 : Int32) <<< (nI n &&& 31)) - 1 = nI (2 ^ n - 1) ∧ 2 ^ n ≤ 256 ∧ 1 ≤ 2 ^ n := by decide +kernel
set_option maxHeartbeats 4000000 in
set_option maxRecDepth 100000 in
theorem c_dc_under (w th am wh : Int32) (hF : FixC sh me) (hR : RepC me S) (hd : 3 ≤ d) : CI d mX6_under sh [.ref 0, .int w, .int th, .int am, .int wh] me (fun x m => x = (sp_under S w th am wh).1 ∧ GoodC sh me m (sp_under S w th am wh).2) := by
  have hFs := hF
  obtain ⟨z0, ⟨g0, g1, g2, g3, g4, g5, g6, g7⟩, ⟨w1, w2, w3, pp1, l1, b1, t1⟩, zs, zss⟩ := hF
  have hw1 := w1
  obtain ⟨s0, s1, s2, s3, s4, r0, r1, r2, r3, hP⟩ := w1
  have hn5 := hR.1.1.1
  have hn := hR.1.2.1
  have hwn := hR.1.2.2.2.2.2.2.2.2.1
  have hw8 := hR.1.2.2.2.2.2.2.2.2.2.1
  have hws := hR.1.2.2.2.2.2.2.2.2.2.2
  refine CI.mk (L := [.ref 0, .int w, .int th, .int am, .int wh, .float 0, .float 0, .float 0]) (by decide) (Nat.le_of_ble_eq_true rfl) rfl ?_
  have bad : ¬ (inR w 0 (nI S.1.2.2.2.2.length - 1) ∧ inR th 1 99 ∧ inR am 1 99999 ∧ inR wh 0 1) → ∀ L4, Wa mX6_under (0, fun _ => 0) d 0 0 sh.length (PI sh (fun x m => x = (sp_under S w th am wh).1 ∧ GoodC sh me m (sp_under S w th am wh).2)) 47 L4 [] sh me 0 0 := by
    intro hb L4
    unfold sp_under
    rw [cif_f hb]
    refine wl_iconst (np := 48) (v := -1) dX6_under_47 rfl (rfl) ?_
    refine wi_ret dX6_under_48 rfl (rfl) (Nat.le_refl _) (Nat.le_refl _) ?_
    exact ⟨rfl, GoodC.same hFs hR⟩
  refine ld_i1 (np := 1) dX6_under_0 rfl ?_
  refine wl_iconst (np := 2) (v := 0) dX6_under_1 rfl (rfl) ?_
  refine ld_a0 (np := 3) dX6_under_2 rfl ?_
  refine wl_getr (np := 6) dX6_under_3 rfl fl_X6_10 rfl (by assumption) (by assumption) ?_
  refine wl_geti (np := 9) dX6_under_6 rfl fl_X6_173 (by decide) (by assumption) ?_
  refine wl_iconst (np := 10) (v := 1) dX6_under_9 rfl (rfl) ?_
  refine wl_isub (np := 11) dX6_under_10 rfl ?_
  refine ciS_3 (np := 14) dX6_under_11 rfl lk_X6_61 (Nat.le_of_ble_eq_true rfl) (by omega) (Nat.le_refl _) (Nat.le_refl _) (c_isWithin _ _ _) (fun x_11 m_11 h_11 => ?_)
  obtain ⟨rfl, q_11⟩ := h_11
  have q_11 := q_11.symm
  subst q_11
  refine wl_if_eq (np := 17) (tg := 47) dX6_under_14 rfl rfl (fun c_14 => ?_) (fun c_14 => ?_)
  · rw [hwn] at c_14
    exact bad (fun h => if0 c_14 h.1) _
  · rw [hwn] at c_14
    refine ld_i2 (np := 18) dX6_under_17 rfl ?_
    refine wl_iconst (np := 19) (v := 1) dX6_under_18 rfl (rfl) ?_
    refine wl_bipush (np := 21) (v := 99) dX6_under_19 rfl (by decide) ?_
    refine ciS_3 (np := 24) dX6_under_21 rfl lk_X6_61 (Nat.le_of_ble_eq_true rfl) (by omega) (Nat.le_refl _) (Nat.le_refl _) (c_isWithin _ _ _) (fun x_21 m_21 h_21 => ?_)
    obtain ⟨rfl, q_21⟩ := h_21
    have q_21 := q_21.symm
    subst q_21
    refine wl_if_eq (np := 27) (tg := 47) dX6_under_24 rfl rfl (fun c_24 => ?_) (fun c_24 => ?_)
    · exact bad (fun h => if0 c_24 h.2.1) _
    · refine ld_i3 (np := 28) dX6_under_27 rfl ?_
      refine wl_iconst (np := 29) (v := 1) dX6_under_28 rfl (rfl) ?_
      refine wl_ldc (np := 31) dX6_under_29 rfl wk_X6_252 ?_
      refine ciS_3 (np := 34) dX6_under_31 rfl lk_X6_61 (Nat.le_of_ble_eq_true rfl) (by omega) (Nat.le_refl _) (Nat.le_refl _) (c_isWithin _ _ _) (fun x_31 m_31 h_31 => ?_)
      obtain ⟨rfl, q_31⟩ := h_31
      have q_31 := q_31.symm
      subst q_31
      refine wl_if_eq (np := 37) (tg := 47) dX6_under_34 rfl rfl (fun c_34 => ?_) (fun c_34 => ?_)
      · exact bad (fun h => if0 c_34 h.2.2.1) _
      · refine ld_i4 (np := 39) dX6_under_37 rfl ?_
        refine wl_iconst (np := 40) (v := 0) dX6_under_39 rfl (rfl) ?_
        refine wl_iconst (np := 41) (v := 1) dX6_under_40 rfl (rfl) ?_
        refine ciS_3 (np := 44) dX6_under_41 rfl lk_X6_61 (Nat.le_of_ble_eq_true rfl) (by omega) (Nat.le_refl _) (Nat.le_refl _) (c_isWithin _ _ _) (fun x_41 m_41 h_41 => ?_)
        obtain ⟨rfl, q_41⟩ := h_41
        have q_41 := q_41.symm
        subst q_41
        refine wl_if_ne (np := 47) (tg := 49) dX6_under_44 rfl rfl (fun c_44 => ?_) (fun c_44 => ?_)
        · have hgood : inR w 0 (nI S.1.2.2.2.2.length - 1) ∧ inR th 1 99 ∧ inR am 1 99999 ∧ inR wh 0 1 := ⟨if1 c_14, if1 c_24, if1 c_34, if1 c_44⟩
          unfold sp_under
          rw [cif_t hgood]
          obtain ⟨p1, p2, p3⟩ := pow_le8 _ hw8
          have ct : ∀ set, condSum set (gI me (1 + 4)) S.1.2.2.2.2.length = condSum set (wTh S.1.2.2.2.2) S.1.2.2.2.2.length := fun set => condSum_congr _ (fun c hc => by
            rw [(hws c _ (List.getElem?_eq_getElem hc)).2]; unfold wTh; rw [List.getElem?_eq_getElem hc]; rfl)
          have ca : ∀ set, condSum set (gI me (1 + 3)) S.1.2.2.2.2.length = condSum set (wAm S.1.2.2.2.2) S.1.2.2.2.2.length := fun set => condSum_congr _ (fun c hc => by
            rw [(hws c _ (List.getElem?_eq_getElem hc)).1]; unfold wAm; rw [List.getElem?_eq_getElem hc]; rfl)
          generalize hT : unF S.1.2.2.2.2 w th am (2 ^ S.1.2.2.2.2.length - 1) (0, -4) = T
          have key : ∀ s r1 r2, s ≤ 255 → unF S.1.2.2.2.2 w th am s (r1, r2) = T → Wa mX6_under (0, fun _ => 0) d 0 0 sh.length (PI sh (fun x m => x = ((if wh = 0 then T.1 else T.2), S).1 ∧ GoodC sh me m ((if wh = 0 then T.1 else T.2), S).2)) 69 [.ref 0, .int w, .int th, .int am, .int wh, .int r1, .int r2, .int (nI s)] [] sh me 0 0 := by
            intro s
            induction s with
            | zero =>
              intro r1 r2 hs hr
              have hr : (r1, r2) = T := hr
              subst hr
              refine ld_i7 (np := 71) dX6_under_69 rfl ?_
              refine wl_if_le (np := 74) (tg := 110) dX6_under_71 rfl rfl (fun c_71 => ?_) (fun c_71 => ?_)
              · refine ld_i4 (np := 112) dX6_under_110 rfl ?_
                refine wl_if_ne (np := 115) (tg := 120) dX6_under_112 rfl rfl (fun c_112 => ?_) (fun c_112 => ?_)
                · rw [if_neg c_112]
                  refine ld_i6 (np := 122) dX6_under_120 rfl ?_
                  refine wi_ret dX6_under_122 rfl (rfl) (Nat.le_refl _) (Nat.le_refl _) ?_
                  exact ⟨rfl, GoodC.same hFs hR⟩
                · rw [if_pos c_112]
                  refine ld_i5 (np := 117) dX6_under_115 rfl ?_
                  refine wl_goto (tg := 122) dX6_under_117 rfl ?_
                  refine wi_ret dX6_under_122 rfl (rfl) (Nat.le_refl _) (Nat.le_refl _) ?_
                  exact ⟨rfl, GoodC.same hFs hR⟩
              · exact absurd (show nI 0 ≤ 0 by decide) c_71
            | succ s ih =>
              intro r1 r2 hs hr
              have hr : unF S.1.2.2.2.2 w th am s (if ¬ ((nI (s + 1) >>> (w &&& 31)) &&& 1 = 0) ∧ condSum (nI (s + 1)) (wTh S.1.2.2.2.2) S.1.2.2.2.2.length = th ∧ condSum (nI (s + 1)) (wAm S.1.2.2.2.2) S.1.2.2.2.2.length = am then (r1 + 1, nI (s + 1)) else (r1, r2)) = T := hr
              have k104 : ∀ x1 x2, unF S.1.2.2.2.2 w th am s (x1, x2) = T → Wa mX6_under (0, fun _ => 0) d 0 0 sh.length (PI sh (fun x m => x = ((if wh = 0 then T.1 else T.2), S).1 ∧ GoodC sh me m ((if wh = 0 then T.1 else T.2), S).2)) 104 [.ref 0, .int w, .int th, .int am, .int wh, .int x1, .int x2, .int (nI (s + 1))] [] sh me 0 0 := by
                intro x1 x2 hx
                refine inc_7 (np := 107) (v := _ + (-1)) dX6_under_104 rfl rfl (by decide) rfl ?_
                refine wl_goto (tg := 69) dX6_under_107 rfl ?_
                have e : nI (s + 1) + -1 = nI s := by rw [← nI_pred s, Int32.sub_eq_add_neg]
                rw [e]
                exact ih x1 x2 (by omega) hx
              refine ld_i7 (np := 71) dX6_under_69 rfl ?_
              refine wl_if_le (np := 74) (tg := 110) dX6_under_71 rfl rfl (fun c_71 => ?_) (fun c_71 => ?_)
              · rw [show (0 : Int32) = nI 0 from rfl, nI_leI (by omega) (by omega)] at c_71
                omega
              · refine ld_i7 (np := 76) dX6_under_74 rfl ?_
                refine ld_i1 (np := 77) dX6_under_76 rfl ?_
                refine ciS_2 (np := 80) dX6_under_77 rfl lk_X6_253 (Nat.le_of_ble_eq_true rfl) (by omega) (Nat.le_refl _) (Nat.le_refl _) (c_isIn _ _) (fun x_77 m_77 h_77 => ?_)
                obtain ⟨rfl, q_77⟩ := h_77
                have q_77 := q_77.symm
                subst q_77
                refine wl_if_eq (np := 83) (tg := 104) dX6_under_80 rfl rfl (fun c_80 => ?_) (fun c_80 => ?_)
                · have c80 : (nI (s + 1) >>> (w &&& 31)) &&& 1 = 0 := Classical.byContradiction fun q => by rw [if_neg q] at c_80; exact absurd c_80 (by decide)
                  rw [if_neg (fun q => q.1 c80)] at hr
                  exact k104 _ _ hr
                · have c80 : ¬ (nI (s + 1) >>> (w &&& 31)) &&& 1 = 0 := fun q => by rw [if_pos q] at c_80; exact absurd rfl c_80
                  refine ld_a0 (np := 84) dX6_under_83 rfl ?_
                  refine wl_getr (np := 87) dX6_under_84 rfl fl_X6_10 rfl (by assumption) (by assumption) ?_
                  refine ld_i7 (np := 89) dX6_under_87 rfl ?_
                  refine ld_i2 (np := 90) dX6_under_89 rfl ?_
                  refine ld_i3 (np := 91) dX6_under_90 rfl ?_
                  refine ciV_3 (np := 94) dX6_under_91 rfl lk_X6_256 (by assumption) (Nat.le_of_ble_eq_true rfl) (by omega) (Nat.le_refl _) (Nat.le_refl _) (c_isSet _ th am hw1 hR.1 (by omega)) (fun x_91 m_91 h_91 => ?_)
                  obtain ⟨h91, q91⟩ := h_91
                  have q91 := q91.symm
                  subst q91
                  rw [ct, ca] at h91
                  refine wl_if_eq (np := 97) (tg := 104) dX6_under_94 rfl rfl (fun c_94 => ?_) (fun c_94 => ?_)
                  · rw [if_neg (fun q => or0 h91 c_94 q.2)] at hr
                    exact k104 _ _ hr
                  · rw [if_pos ⟨c80, or1 h91 c_94⟩] at hr
                    refine inc_5 (np := 100) (v := _ + 1) dX6_under_97 rfl rfl (by decide) rfl ?_
                    refine ld_i7 (np := 102) dX6_under_100 rfl ?_
                    refine st_i6 (np := 104) dX6_under_102 rfl (by decide) rfl ?_
                    exact k104 _ _ hr
          refine wl_iconst (np := 50) (v := 0) dX6_under_49 rfl (rfl) ?_
          refine st_i5 (np := 52) dX6_under_50 rfl (by decide) rfl ?_
          refine wl_bipush (np := 54) (v := -4) dX6_under_52 rfl (by decide) ?_
          refine st_i6 (np := 56) dX6_under_54 rfl (by decide) rfl ?_
          refine wl_iconst (np := 57) (v := 1) dX6_under_56 rfl (rfl) ?_
          refine ld_a0 (np := 58) dX6_under_57 rfl ?_
          refine wl_getr (np := 61) dX6_under_58 rfl fl_X6_10 rfl (by assumption) (by assumption) ?_
          refine wl_geti (np := 64) dX6_under_61 rfl fl_X6_173 (by decide) (by assumption) ?_
          refine wl_ishl (np := 65) dX6_under_64 rfl ?_
          refine wl_iconst (np := 66) (v := 1) dX6_under_65 rfl (rfl) ?_
          refine wl_isub (np := 67) dX6_under_66 rfl ?_
          refine st_i7 (np := 69) dX6_under_67 rfl (by decide) rfl ?_
          rw [hwn, p1]
          exact key (2 ^ S.1.2.2.2.2.length - 1) 0 (-4) (by omega) hT
        · exact bad (fun h => if0 c_44 h.2.2.2) _
end DC7
