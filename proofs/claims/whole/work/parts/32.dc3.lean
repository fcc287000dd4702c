section DC3
variable {sh : List Shp} {me : Mem} {d : Nat} {S : St}
set_option maxHeartbeats 4000000 in
set_option maxRecDepth 100000 in
theorem c_dc_coats (p : Int32) (hF : FixC sh me) (hR : RepC me S) (hok : okB S.2.2.1.2 S.2.2.1.1) (hd : 5 ≤ d) : CI d mX6_coats sh [.ref 0, .int p] me (fun x m => x = (sp_coats S p).1 ∧ GoodC sh me m (sp_coats S p).2) := by
  have hFs := hF
  obtain ⟨z0, ⟨g0, g1, g2, g3, g4, g5, g6, g7⟩, ⟨w1, w2, w3, pp1, l1, b1, t1⟩, zs, zss⟩ := hF
  have hw1 := w1
  obtain ⟨s0, s1, s2, s3, s4, r0, r1, r2, r3, hP⟩ := w1
  have hn5 := hR.1.1.1
  have hn := hR.1.2.1
  obtain ⟨f1, f2, f3⟩ := id hR.2.2.1
  have ht1 := t1
  have hsp1 := pp1
  obtain ⟨v0, v1, v2⟩ := t1
  have sP1 := pp1.1
  have hokM : okB (gI me (125 + 1)) S.2.2.1.1 := fun i hi => by rw [f3 i hi]; exact hok i hi
  refine CI.mk (L := [.ref 0, .int p, .float 0]) (by decide) (Nat.le_of_ble_eq_true rfl) rfl ?_
  refine ld_a0 (np := 1) dX6_coats_0 rfl ?_
  refine wl_getr (np := 4) dX6_coats_1 rfl fl_X6_10 rfl (by assumption) (by assumption) ?_
  refine ld_i1 (np := 5) dX6_coats_4 rfl ?_
  refine ciV_1 (np := 8) dX6_coats_5 rfl lk_X6_77 (by assumption) (Nat.le_of_ble_eq_true rfl) (by omega) (Nat.le_refl _) (Nat.le_refl _) (c_hasPerson p hw1 hR.1 (by omega)) (fun x_5 m_5 h_5 => ?_)
  obtain ⟨h5, q5⟩ := h_5
  have q5 := q5.symm
  subst q5
  refine wl_if_ne (np := 11) (tg := 13) dX6_coats_8 rfl rfl (fun c_8 => ?_) (fun c_8 => ?_)
  · have hpn := or1 h5 c_8
    obtain ⟨k, hk, rfl⟩ := or1 h5 c_8
    obtain ⟨P, hPk⟩ : ∃ P, S.1.1[k]? = some P := ⟨_, List.getElem?_eq_getElem hk⟩
    have hrP := hR.1.1.2 k P hPk
    obtain ⟨ga, gb⟩ := hP k (by omega)
    have sPk := gb.1
    refine ld_a0 (np := 14) dX6_coats_13 rfl ?_
    refine wl_getr (np := 17) dX6_coats_14 rfl fl_X6_46 rfl (by assumption) (by assumption) ?_
    refine ld_a0 (np := 18) dX6_coats_17 rfl ?_
    refine wl_getr (np := 21) dX6_coats_18 rfl fl_X6_25 rfl (by assumption) (by assumption) ?_
    refine ciV_1 (np := 24) dX6_coats_21 rfl lk_X6_153 (by assumption) (Nat.le_of_ble_eq_true rfl) (by omega) (Nat.le_refl _) (Nat.le_refl _) (c_readCoats ht1 hsp1 (by omega) f1 f2 hokM (by omega)) (fun x_21 m_21 h_21 => ?_)
    obtain ⟨⟨hm2, hmo⟩, htb, hres⟩ := h_21
    have hrd : rdS (gI me (125 + 1)) S.2.2.1.1 6 0 [] = rdS S.2.2.1.2 S.2.2.1.1 6 0 [] := rdS_congr hok f3
    rw [hrd] at hres
    unfold sp_coats
    rw [cif_t hpn, getP_nI hPk (by omega), nI_clamp (by omega)]
    obtain ⟨I1, R1⟩ := m_21
    obtain rfl : R1 = me.2 := hm2
    have base : ∀ m : Mem, m.2 = me.2 → (∀ a, a ≠ 125 → ¬ (106 ≤ a ∧ a < 112) → m.1 a = me.1 a) → gI m 125 1 = 0 → GoodC sh me m (S.1, S.2.1, (0, S.2.2.1.2), S.2.2.2) := by
      intro m hm hmm h0
      obtain ⟨e1, e2, e3, e6⟩ := id hR
      refine ⟨⟨e1.fr (fun a ha hb => hmm a (by omega) (by omega)), ?_, ⟨h0, Nat.zero_le _, fun i hi => absurd hi (Nat.not_lt_zero i)⟩, fun k hk4 => (e6 k hk4).fr (fun a ha hb => hmm a (by omega) (by omega))⟩, hFs.of (RfK.of hm), RfK.of hm, fun a ha => hmm a (by omega) (by omega)⟩
      have e0 : gI m 0 8 = gI me 0 8 := congrFun (hmm 0 (by omega) (by omega)) 8
      dsimp only
      cases hI : S.2.1 with
      | none => rw [hI] at e2; exact e0.trans e2
      | some V => rw [hI] at e2; exact ⟨e0.trans e2.1, e2.2.fr (fun a ha hb => hmm a (by omega) (by omega))⟩
    have b1 := base (uI (I1, me.2) 125 1 0) rfl (fun a h1 h2 => (gI_uI_ne h1).trans (hmo a (by omega))) (gI_uI_self _ _ _ _)
    generalize hRR : rdS S.2.2.1.2 S.2.2.1.1 6 0 [] = RR at hres ⊢
    cases RR with
    | inl pl0 =>
      have hx : x_21 = -20 - nI pl0 := hres
      have hple : pl0 ≤ S.2.2.1.1 := rdS_le (by omega) hRR
      refine st_i2 (np := 25) dX6_coats_24 rfl (by decide) rfl ?_
      refine ld_a0 (np := 26) dX6_coats_25 rfl ?_
      refine wl_getr (np := 29) dX6_coats_26 rfl fl_X6_46 rfl (by assumption) (by assumption) ?_
      refine wl_iconst (np := 30) (v := 0) dX6_coats_29 rfl (rfl) ?_
      refine wl_puti (np := 33) dX6_coats_30 rfl fl_X6_146 nf_4_1 rfl (by assumption) ?_
      refine ld_i2 (np := 34) dX6_coats_33 rfl ?_
      refine wl_if_lt (np := 37) (tg := 53) dX6_coats_34 rfl rfl (fun c_34 => ?_) (fun c_34 => ?_)
      · rw [hx]
        refine ld_i2 (np := 54) dX6_coats_53 rfl ?_
        refine wi_ret dX6_coats_54 rfl (rfl) (Nat.le_refl _) (Nat.le_refl _) ?_
        exact ⟨rfl, b1⟩
      · exfalso
        rw [hx] at c_34
        refine c_34 (Int32.lt_iff_toInt_lt.mpr ?_)
        have e20 : (-20 : Int32).toInt = -20 := rfl
        have e0 : (0 : Int32).toInt = 0 := rfl
        rw [ti_sub (by rw [nI_toInt (by omega)]; omega) (by rw [nI_toInt (by omega)]; omega), nI_toInt (by omega)]
        omega
    | inr l =>
      obtain ⟨hx, hrc⟩ := hres
      have hl8 := hrc.2.1
      refine st_i2 (np := 25) dX6_coats_24 rfl (by decide) rfl ?_
      refine ld_a0 (np := 26) dX6_coats_25 rfl ?_
      refine wl_getr (np := 29) dX6_coats_26 rfl fl_X6_46 rfl (by assumption) (by assumption) ?_
      refine wl_iconst (np := 30) (v := 0) dX6_coats_29 rfl (rfl) ?_
      refine wl_puti (np := 33) dX6_coats_30 rfl fl_X6_146 nf_4_1 rfl (by assumption) ?_
      refine ld_i2 (np := 34) dX6_coats_33 rfl ?_
      refine wl_if_lt (np := 37) (tg := 53) dX6_coats_34 rfl rfl (fun c_34 => ?_) (fun c_34 => ?_)
      · rw [hx] at c_34
        exact absurd c_34 (nI_pos (by omega))
      · rw [hx]
        refine ld_a0 (np := 38) dX6_coats_37 rfl ?_
        refine wl_getr (np := 41) dX6_coats_38 rfl fl_X6_10 rfl (by assumption) (by first | assumption | (rw [nI_clamp (by omega)]; assumption)) ?_
        refine wl_getr (np := 44) dX6_coats_41 rfl fl_X6_69 rfl (by assumption) (by first | assumption | (rw [nI_clamp (by omega)]; assumption)) ?_
        refine ld_i1 (np := 45) dX6_coats_44 rfl ?_
        refine wl_aaload (np := 46) dX6_coats_45 rfl (by assumption) (by decide) (vp_in_nI (by omega) (by decide)) (by first | assumption | (rw [nI_clamp (by omega)]; assumption)) ?_
        refine ld_a0 (np := 47) dX6_coats_46 rfl ?_
        refine wl_getr (np := 50) dX6_coats_47 rfl fl_X6_25 rfl (by assumption) (by first | assumption | (rw [nI_clamp (by omega)]; assumption)) ?_
        refine cvV_1 (np := 53) dX6_coats_50 rfl lk_X6_157 (by assumption) (Nat.le_of_ble_eq_true rfl) (by omega) (Nat.le_refl _) (Nat.le_refl _) (c_wearAs (gb.of rfl) (hsp1.of rfl) (by omega) (by omega)) (fun m_50 h_50 => ?_)
        have q_50 := h_50.symm
        subst q_50
        refine ld_i2 (np := 54) dX6_coats_53 rfl ?_
        refine wi_ret dX6_coats_54 rfl (rfl) (Nat.le_refl _) (Nat.le_refl _) ?_
        refine ⟨rfl, ?_⟩
        have hwO : Onl (uI (I1, me.2) 125 1 0) (wearM (uI (I1, me.2) 125 1 0) (1 + 5 + 6 * k) 106) (1 + 5 + 6 * k) (1 + 5 + 6 * k + 6) := by
          refine ⟨rfl, fun a ha => funext fun b => ?_⟩
          simp only [wearM]
          rw [if_neg (by omega), if_neg (by omega)]
        have hgd := GoodC.p (S := (S.1, S.2.1, (0, S.2.2.1.2), S.2.2.2)) (P := (P.1, l, P.2.2)) b1.2.1 b1.1 hk hwO ?_
        · obtain ⟨q1, q2, q3, q4⟩ := hgd
          exact ⟨q1, q2, b1.2.2.1.tr q3, fun a ha => (q4 a ha).trans (b1.2.2.2 a ha)⟩
        · have hw5 : gI (wearM (uI (I1, me.2) 125 1 0) (1 + 5 + 6 * k) 106) (1 + 5 + 6 * k) 5 = nI l.length := by
            simp only [wearM, g_def]
            rw [if_pos (by refine ⟨?_, ?_⟩ <;> first | trivial | rfl)]
            exact hrc.1
          have hsc : ∀ b, b ≠ 5 → gI (wearM (uI (I1, me.2) 125 1 0) (1 + 5 + 6 * k) 106) (1 + 5 + 6 * k) b = gI me (1 + 5 + 6 * k) b := fun b hb => by
            simp only [wearM, g_def]
            rw [if_neg (by omega), if_neg (by omega)]
            exact congrFun ((gI_uI_ne (by omega)).trans (hmo _ (by omega))) b
          have har : ∀ j c, 1 ≤ j → j ≤ 4 → c < 8 → gI (wearM (uI (I1, me.2) 125 1 0) (1 + 5 + 6 * k) 106) (1 + 5 + 6 * k + j) c = I1 (106 + j) c := fun j c h1 h2 h3 => by
            simp only [wearM, g_def]
            rw [if_neg (by omega), if_pos (by omega), show 106 + (1 + 5 + 6 * k + j - (1 + 5 + 6 * k)) = 106 + j by omega]
            exact congrFun (gI_uI_ne (me := (I1, me.2)) (i := 1) (x := 0) (by omega : 106 + j ≠ 125)) c
          refine ⟨(hsc 6 (by omega)).trans hrP.1, (hsc 7 (by omega)).trans hrP.2.1, (hsc 8 (by omega)).trans hrP.2.2.1, (hsc 9 (by omega)).trans hrP.2.2.2.1, hw5, hl8, fun c co hc => ?_, fun j hj => ?_⟩
          · have hlt := (List.getElem?_eq_some_iff.mp hc).1
            have hlt2 : c < l.length := hlt
            obtain ⟨m1, m2, m3, m4⟩ := hrc.2.2 c co hc
            exact ⟨(har 1 c (by omega) (by omega) (by omega)).trans m1, (har 2 c (by omega) (by omega) (by omega)).trans m2, (har 3 c (by omega) (by omega) (by omega)).trans m3, (har 4 c (by omega) (by omega) (by omega)).trans m4⟩
          · rw [← hrP.2.2.2.2.2.2.2 j hj]
            simp only [wearM, g_def]
            rw [if_neg (by omega), if_neg (by omega)]
            exact congrFun ((gI_uI_ne (by omega)).trans (hmo _ (by omega))) j
  · unfold sp_coats
    rw [cif_f (or0 h5 c_8)]
    refine wl_iconst (np := 12) (v := -1) dX6_coats_11 rfl (rfl) ?_
    refine wi_ret dX6_coats_12 rfl (rfl) (Nat.le_refl _) (Nat.le_refl _) ?_
    exact ⟨rfl, GoodC.same hFs hR⟩
end DC3
