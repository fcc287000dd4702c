section M8
variable {sh : List Shp} {me : Mem} {d kk : Nat} {S : St}
theorem RepM.l8 (hR : RepM me S) : ∀ P ∈ S.1.1, P.2.1.length ≤ 8 := fun P hP => by
  obtain ⟨y, hy⟩ := List.getElem?_of_mem hP
  exact (hR.1.1.2 y P hy).2.2.2.2.1
theorem GoodM.tr {m m' : Mem} {S1 S2 : St} (h : GoodM sh me m S1) (h' : GoodM sh m m' S2) : GoodM sh me m' S2 := ⟨h'.1, h'.2.1, h.2.2.1.tr h'.2.2.1, fun a ha => (h'.2.2.2 a ha).trans (h.2.2.2 a ha)⟩
set_option maxHeartbeats 4000000 in
set_option maxRecDepth 100000 in
theorem c_M_nights (n : Int32) (hF : FixM sh me) (hR : RepM me S) (hwf : wfW kk S.1) (hkk : kk ≤ 64) (hd : 3 ≤ d) : CI d mX7_nights sh [.ref 136, .int n] me (fun x m => x = (sp_nights S n).1 ∧ GoodM sh me m (sp_nights S n).2) := by
  have hFs := hF
  obtain ⟨z0, ⟨x1, x2, x4, x5, x6, x10, x11, x12, x16, x17, x18, x21, x22, x24, x25, x26, x27⟩, ⟨g1, g2, g4, g5, g6, g10, g11, g12, g16, g17, g18, g21, g22, g24, g25, g26, g27⟩, gs⟩ := hF
  have hdy := hR.1.2.2.2.2.2.2.2.1
  have hd9 := hR.1.2.2.2.2.2.2.2.2.1
  refine CI.mk (L := [.ref 136, .int n, .float 0]) (by decide) (Nat.le_of_ble_eq_true rfl) rfl ?_
  refine ld_i1 (np := 1) dX7_nights_0 rfl ?_
  refine wl_i2l (np := 2) dX7_nights_1 rfl ?_
  refine wl_lconst (np := 3) (v := 1) dX7_nights_2 rfl rfl ?_
  refine wl_ldc2 (np := 6) dX7_nights_3 rfl wk_X7_78 ?_
  refine ciS_3 (np := 9) dX7_nights_6 rfl lk_X7_68 (Nat.le_of_ble_eq_true rfl) (by omega) (Nat.le_refl _) (Nat.le_refl _) (c_in32 _ 1 60 (by decide) (by decide)) (fun x_6 m_6 h_6 => ?_)
  obtain ⟨rfl, q_6⟩ := h_6
  have q_6 := q_6.symm
  subst q_6
  refine wl_if_ne (np := 12) (tg := 14) dX7_nights_9 rfl rfl (fun c_9 => ?_) (fun c_9 => ?_)
  · have hin := if1 c_9
    obtain ⟨j, hj, rfl⟩ := nI_of2 (x := n) (M := 60) (n := 60) rfl (Int32.not_lt.mpr (Int32.le_trans (by decide) hin.1)) hin.2
    unfold sp_nights
    rw [cif_t hin, nI_clamp (by omega)]
    refine ld_a0 (np := 15) dX7_nights_14 rfl ?_
    refine wl_geti (np := 18) dX7_nights_15 rfl fl_X7_145 (by decide) (by assumption) ?_
    refine ld_i1 (np := 19) dX7_nights_18 rfl ?_
    refine wl_iadd (np := 20) dX7_nights_19 rfl ?_
    refine wl_sipush (np := 23) (v := nI 359) dX7_nights_20 rfl (by decide) ?_
    refine wl_icmp_le (np := 26) (tg := 29) dX7_nights_23 rfl rfl (fun c_23 => ?_) (fun c_23 => ?_)
    · rw [hdy, nI_add, nI_leI (by omega) (by decide)] at c_23
      rw [if_neg (by omega)]
      have key : ∀ fuel i (m : Mem), j - i < fuel → i ≤ j → gR m 136 3 = some 137 → GoodM sh me m (nightsW i S.1, S.2) → Wa mX7_nights (0, fun _ => 0) d 0 0 sh.length (PI sh (fun x m => x = (nI (S.1.2.2.2.1 + j), (nightsW j S.1, S.2)).1 ∧ GoodM sh me m (nI (S.1.2.2.2.1 + j), (nightsW j S.1, S.2)).2)) 39 [.ref 136, .int (nI j), .int (nI i)] [] sh m 0 0 := by
        intro fuel
        induction fuel with
        | zero => intro i m h; omega
        | succ fuel ih =>
          intro i m hf hi gst hg
          have hg0 := hg
          obtain ⟨hr, hfx, hrf, hm⟩ := hg
          obtain ⟨nf1, nf2, nf3, nf4, nf5, nf6, nf7⟩ := nights_facts i S.1
          obtain ⟨v1, v2, v3, v4, v5, v6, v7, v8, v9, v10, v11, v12⟩ := id hr.1
          dsimp only at v1 v2 v3 v4 v5 v6 v7 v8 v9 v10 v11 v12
          obtain ⟨z0', ⟨x1', x2', x4', x5', x6', x10', x11', x12', x16', x17', x18', x21', x22', x24', x25', x26', x27'⟩, ⟨g1', g2', g4', g5', g6', g10', g11', g12', g16', g17', g18', g21', g22', g24', g25', g26', g27'⟩, gs'⟩ := hfx
          refine ld_i2 (np := 40) dX7_nights_39 rfl ?_
          refine ld_i1 (np := 41) dX7_nights_40 rfl ?_
          refine wl_icmp_ge (np := 44) (tg := 68) dX7_nights_41 rfl rfl (fun c_41 => ?_) (fun c_41 => ?_)
          · rw [nI_le_iff (by omega) (by omega)] at c_41
            have hie : i = j := by omega
            subst hie
            refine ld_a0 (np := 69) dX7_nights_68 rfl ?_
            refine wl_geti (np := 72) dX7_nights_69 rfl fl_X7_145 (by decide) (by assumption) ?_
            refine wi_ret dX7_nights_72 rfl (rfl) (Nat.le_refl _) (Nat.le_refl _) ?_
            rw [v8, nf2]
            exact ⟨rfl, hg0⟩
          · rw [nI_le_iff (by omega) (by omega)] at c_41
            obtain ⟨w1, w2⟩ := wf_nights i hwf hR.l8 hkk (by omega)
            have e7 : gI m 136 7 + 1 = nI (S.1.2.2.2.1 + i + 1) := by rw [v8, nf2, ← nI_succ]
            have hF' : FixM sh (uI m 136 7 (nI (S.1.2.2.2.1 + i + 1))) := hg0.2.1.of (RfM.of rfl)
            refine ld_a0 (np := 45) dX7_nights_44 rfl ?_
            refine wl_dup (np := 46) dX7_nights_45 rfl rfl ?_
            refine wl_geti (np := 49) dX7_nights_46 rfl fl_X7_145 (by decide) (by assumption) ?_
            refine wl_iconst (np := 50) (v := 1) dX7_nights_49 rfl (rfl) ?_
            refine wl_iadd (np := 51) dX7_nights_50 rfl ?_
            refine wl_puti (np := 54) dX7_nights_51 rfl fl_X7_145 nf_7_7 rfl (by assumption) ?_
            rw [e7]
            refine ld_a0 (np := 55) dX7_nights_54 rfl ?_
            refine ld_a0 (np := 56) dX7_nights_55 rfl ?_
            refine wl_geti (np := 59) dX7_nights_56 rfl fl_X7_145 (by decide) (by assumption) ?_
            refine cvV_1 (np := 62) dX7_nights_59 rfl lk_X7_165 (by assumption) (Nat.le_of_ble_eq_true rfl) (by omega) (Nat.le_refl _) (Nat.le_refl _) (by rw [gI_uI_self]; exact c_M_sleeps (A := 137) (ps := (nightsW i S.1).1) (H := (nightsW i S.1).2.1) hF' gst x1 (Or.inl rfl) v1 v2 v3 v4 (fun P hP => okR_of w1 hkk hP) (by omega) (by omega)) (fun m_59 h_59 => ?_)
            obtain ⟨f, rfl, hf1⟩ := h_59
            refine inc_2 (np := 65) (v := _ + 1) dX7_nights_62 rfl rfl (by decide) rfl ?_
            refine wl_goto (tg := 39) dX7_nights_65 rfl ?_
            rw [← nI_succ]
            refine ih (i + 1) _ (by omega) (by omega) gst ?_
            rw [nightsW_succ]
            have hN : NowM (uA (uI m 136 7 (nI (S.1.2.2.2.1 + i + 1))) 137 f) (nightWd (nightsW i S.1)) := by
              unfold nightWd
              rw [nf2]
              refine ⟨hf1, fun p P hp => ?_, v3.trans (by simp), v4, v5, v6, v7, gI_uI_self m 136 7 _, by show S.1.2.2.2.1 + i + 1 ≤ 359; omega, v10, v11, v12⟩
              rw [List.getElem?_map] at hp
              obtain ⟨P', hP', rfl⟩ := Option.map_eq_some_iff.mp hp
              have ht := v2 p P' hP'
              intro l hl
              refine (ht l hl).trans ?_
              unfold nightP fallP
              split <;> rfl
            exact hg0.tr (GoodM.now (S := (nightsW i S.1, S.2)) hg0.2.1 hr (RfM.of rfl) (fun a ha => (gI_uAn (by omega)).trans (gI_uI_ne (by omega))) ⟨rfl, rfl, rfl, rfl, rfl, rfl, rfl⟩ hN)
      have gs2 : gR (uR me 136 3 (some 137)) 136 3 = some 137 := by rw [gR_uR, if_pos ⟨rfl, rfl⟩]
      refine ld_a0 (np := 30) dX7_nights_29 rfl ?_
      refine ld_a0 (np := 31) dX7_nights_30 rfl ?_
      refine wl_getr (np := 34) dX7_nights_31 rfl fl_X7_7 rfl (by assumption) (by assumption) ?_
      refine wl_putr (np := 37) dX7_nights_34 rfl fl_X7_16 nf_7_3 rfl (by assumption) ?_
      refine wl_iconst (np := 38) (v := 0) dX7_nights_37 rfl (rfl) ?_
      refine st_i2 (np := 39) dX7_nights_38 rfl (by decide) rfl ?_
      exact key (j + 1) 0 _ (by omega) (by omega) gs2 (GoodM.last hFs hR (rfm_now rfl (Or.inl rfl)) ⟨fun b _ _ _ _ => rfl, rfl, fun _ _ _ => rfl, fun _ _ _ => rfl⟩ (fun _ _ => rfl))
    · rw [hdy, nI_add, nI_leI (by omega) (by decide)] at c_23
      rw [if_pos (by omega)]
      refine wl_bipush (np := 28) (v := -3) dX7_nights_26 rfl (by decide) ?_
      refine wi_ret dX7_nights_28 rfl (rfl) (Nat.le_refl _) (Nat.le_refl _) ?_
      exact ⟨rfl, GoodM.same hFs hR⟩
  · unfold sp_nights
    rw [cif_f (if0 c_9)]
    refine wl_iconst (np := 13) (v := -1) dX7_nights_12 rfl (rfl) ?_
    refine wi_ret dX7_nights_13 rfl (rfl) (Nat.le_refl _) (Nat.le_refl _) ?_
    exact ⟨rfl, GoodM.same hFs hR⟩
set_option maxHeartbeats 4000000 in
set_option maxRecDepth 100000 in
theorem c_M_bears (p : Int32) (hF : FixM sh me) (hR : RepM me S) (hd : 3 ≤ d) : CI d mX7_bears sh [.ref 136, .int p] me (fun x m => x = (sp_bears S p).1 ∧ GoodM sh me m (sp_bears S p).2) := by
  have hFs := hF
  obtain ⟨z0, ⟨x1, x2, x4, x5, x6, x10, x11, x12, x16, x17, x18, x21, x22, x24, x25, x26, x27⟩, ⟨g1, g2, g4, g5, g6, g10, g11, g12, g16, g17, g18, g21, g22, g24, g25, g26, g27⟩, gs⟩ := hF
  obtain ⟨v1, v2, v3, v4, v5, v6, v7, v8, v9, v10, v11, v12⟩ := id hR.1
  have hn5 := v1.1
  refine CI.mk (L := [.ref 136, .int p, .float 0]) (by decide) (Nat.le_of_ble_eq_true rfl) rfl ?_
  refine ld_a0 (np := 1) dX7_bears_0 rfl ?_
  refine ld_i1 (np := 2) dX7_bears_1 rfl ?_
  refine ciV_1 (np := 5) dX7_bears_2 rfl lk_X7_80 (by assumption) (Nat.le_of_ble_eq_true rfl) (by omega) (Nat.le_refl _) (Nat.le_refl _) (c_M_isOne p z0 v3 hn5 (by omega)) (fun x_2 m_2 h_2 => ?_)
  obtain ⟨h2, q2⟩ := h_2
  have q2 := q2.symm
  subst q2
  have h2 : x_2 = 1 ∧ isPn S.1.1 p ∨ x_2 = 0 ∧ ¬ isPn S.1.1 p := h2
  have hgd : GoodM sh me (uR me 136 3 (some 137)) S := GoodM.last hFs hR (rfm_now rfl (Or.inl rfl)) ⟨fun b _ _ _ _ => rfl, rfl, fun _ _ _ => rfl, fun _ _ _ => rfl⟩ (fun _ _ => rfl)
  refine wl_if_ne (np := 8) (tg := 10) dX7_bears_5 rfl rfl (fun c_5 => ?_) (fun c_5 => ?_)
  · have hpn := or1 h2 c_5
    obtain ⟨k, hk, rfl⟩ := or1 h2 c_5
    obtain ⟨P, hPk⟩ : ∃ P, S.1.1[k]? = some P := ⟨_, List.getElem?_eq_getElem hk⟩
    have hq : RepQ (gI (uR me 136 3 (some 137)) 137) k P := v1.2 k P hPk
    unfold sp_bears
    rw [cif_t hpn, getP_nI hPk (by omega)]
    have gs2 : gR (uR me 136 3 (some 137)) 136 3 = some 137 := by rw [gR_uR, if_pos ⟨rfl, rfl⟩]
    have gr1 : ∀ b, b ≠ 3 → gR (uR me 136 3 (some 137)) 136 b = gR me 136 b := fun b hb => by rw [gR_uR, if_neg (fun q => hb q.2)]
    have g5' := (gr1 5 (by omega)).trans g5
    have key : ∀ fuel dd, dd + fuel = 360 → S.1.2.2.2.1 < dd → brF P S.1.2.1 S.1.2.2.2.1 fuel dd = brF P S.1.2.1 S.1.2.2.2.1 (359 - S.1.2.2.2.1) (S.1.2.2.2.1 + 1) → Wa mX7_bears (0, fun _ => 0) d 0 0 sh.length (PI sh (fun x m => x = brF P S.1.2.1 S.1.2.2.2.1 (359 - S.1.2.2.2.1) (S.1.2.2.2.1 + 1) ∧ GoodM sh me m S)) 25 [.ref 136, .int (nI k), .int (nI dd)] [] sh (uR me 136 3 (some 137)) 0 0 := by
      intro fuel
      induction fuel with
      | zero =>
        intro dd h1 h2 h3
        refine ld_i2 (np := 26) dX7_bears_25 rfl ?_
        refine wl_sipush (np := 29) (v := nI 360) dX7_bears_26 rfl (by decide) ?_
        refine wl_icmp_ge (np := 32) (tg := 54) dX7_bears_29 rfl rfl (fun c_29 => ?_) (fun c_29 => ?_)
        · refine wl_bipush (np := 56) (v := -4) dX7_bears_54 rfl (by decide) ?_
          refine wi_ret dX7_bears_56 rfl (rfl) (Nat.le_refl _) (Nat.le_refl _) ?_
          exact ⟨h3, hgd⟩
        · rw [nI_le_iff (by omega) (by omega)] at c_29
          omega
      | succ fuel ih =>
        intro dd h1 h2 h3
        refine ld_i2 (np := 26) dX7_bears_25 rfl ?_
        refine wl_sipush (np := 29) (v := nI 360) dX7_bears_26 rfl (by decide) ?_
        refine wl_icmp_ge (np := 32) (tg := 54) dX7_bears_29 rfl rfl (fun c_29 => ?_) (fun c_29 => ?_)
        · rw [nI_le_iff (by omega) (by omega)] at c_29
          omega
        · refine ld_a0 (np := 33) dX7_bears_32 rfl ?_
          refine ld_i1 (np := 34) dX7_bears_33 rfl ?_
          refine ld_i2 (np := 35) dX7_bears_34 rfl ?_
          refine ciV_2 (np := 38) dX7_bears_35 rfl lk_X7_162 (by assumption) (Nat.le_of_ble_eq_true rfl) (by omega) (Nat.le_refl _) (Nat.le_refl _) (c_M_isTooHot (H := S.1.2.1) z0 gs2 x1 g5' x5 hq v4 (by omega) (by omega) (by omega)) (fun x_35 m_35 h_35 => ?_)
          obtain ⟨h49, q49⟩ := h_35
          have q49 := q49.symm
          subst q49
          unfold hotS at h49
          have hst : brF P S.1.2.1 S.1.2.2.2.1 (fuel + 1) dd = if maxI (P.1.2.2.1 - S.1.2.1 (dd / 30)) 0 < thickOf P then nI (dd - S.1.2.2.2.1) else brF P S.1.2.1 S.1.2.2.2.1 fuel (dd + 1) := rfl
          rw [hst] at h3
          refine wl_if_eq (np := 41) (tg := 48) dX7_bears_38 rfl rfl (fun c_38 => ?_) (fun c_38 => ?_)
          · rw [if_neg (or0 h49 c_38)] at h3
            refine inc_2 (np := 51) (v := _ + 1) dX7_bears_48 rfl rfl (by decide) rfl ?_
            refine wl_goto (tg := 25) dX7_bears_51 rfl ?_
            rw [← nI_succ]
            exact ih (dd + 1) (by omega) (by omega) h3
          · rw [if_pos (or1 h49 c_38)] at h3
            refine ld_i2 (np := 42) dX7_bears_41 rfl ?_
            refine ld_a0 (np := 43) dX7_bears_42 rfl ?_
            refine wl_geti (np := 46) dX7_bears_43 rfl fl_X7_145 (by decide) (by assumption) ?_
            refine wl_isub (np := 47) dX7_bears_46 rfl ?_
            refine wi_ret dX7_bears_47 rfl (rfl) (Nat.le_refl _) (Nat.le_refl _) ?_
            refine ⟨?_, hgd⟩
            rw [← h3]
            exact (congrArg (fun z => nI dd - z) v8).trans (nI_subI (by omega))
    refine ld_a0 (np := 11) dX7_bears_10 rfl ?_
    refine ld_a0 (np := 12) dX7_bears_11 rfl ?_
    refine wl_getr (np := 15) dX7_bears_12 rfl fl_X7_7 rfl (by assumption) (by assumption) ?_
    refine wl_putr (np := 18) dX7_bears_15 rfl fl_X7_16 nf_7_3 rfl (by assumption) ?_
    refine ld_a0 (np := 19) dX7_bears_18 rfl ?_
    refine wl_geti (np := 22) dX7_bears_19 rfl fl_X7_145 (by decide) (by assumption) ?_
    refine wl_iconst (np := 23) (v := 1) dX7_bears_22 rfl (rfl) ?_
    refine wl_iadd (np := 24) dX7_bears_23 rfl ?_
    refine st_i2 (np := 25) dX7_bears_24 rfl (by decide) rfl ?_
    have e7 : gI (uR me 136 3 (some 137)) 136 7 = nI S.1.2.2.2.1 := v8
    rw [e7, ← nI_succ]
    exact key (359 - S.1.2.2.2.1) (S.1.2.2.2.1 + 1) (by omega) (by omega) rfl
  · unfold sp_bears
    rw [cif_f (or0 h2 c_5)]
    refine wl_iconst (np := 9) (v := -1) dX7_bears_8 rfl (rfl) ?_
    refine wi_ret dX7_bears_9 rfl (rfl) (Nat.le_refl _) (Nat.le_refl _) ?_
    exact ⟨rfl, GoodM.same hFs hR⟩
set_option maxHeartbeats 4000000 in
set_option maxRecDepth 100000 in
theorem c_M_owed (l : Int32) (hF : FixM sh me) (hR : RepM me S) (hd : 2 ≤ d) : CI d mX7_owed sh [.ref 136, .int l] me (fun x m => x = (sp_owed S l).1 ∧ GoodM sh me m (sp_owed S l).2) := by
  have hFs := hF
  obtain ⟨z0, ⟨x1, x2, x4, x5, x6, x10, x11, x12, x16, x17, x18, x21, x22, x24, x25, x26, x27⟩, ⟨g1, g2, g4, g5, g6, g10, g11, g12, g16, g17, g18, g21, g22, g24, g25, g26, g27⟩, gs⟩ := hF
  obtain ⟨v1, v2, v3, v4, v5, v6, v7, v8, v9, v10, v11, v12⟩ := id hR.1
  have hn5 := v1.1
  refine CI.mk (L := [.ref 136, .int l, .float 0, .float 0, .float 0, .float 0]) (by decide) (Nat.le_of_ble_eq_true rfl) rfl ?_
  refine ld_i1 (np := 1) dX7_owed_0 rfl ?_
  refine ciS_1 (np := 4) dX7_owed_1 rfl lk_X7_97 (Nat.le_of_ble_eq_true rfl) (by omega) (Nat.le_refl _) (Nat.le_refl _) (c_M_isLender _ (by omega)) (fun x_1 m_1 h_1 => ?_)
  obtain ⟨rfl, q_1⟩ := h_1
  have q_1 := q_1.symm
  subst q_1
  refine wl_if_ne (np := 7) (tg := 9) dX7_owed_4 rfl rfl (fun c_4 => ?_) (fun c_4 => ?_)
  · unfold sp_owed
    rw [cif_t (if1 c_4)]
    have hin : ∀ p P, S.1.1[p]? = some P → sumF (fun c => if gI me 137 (40 * p + 8 + 4 * c) = l then gI me 137 (40 * p + 8 + 4 * c + 1) else 0) P.2.1.length = owedP P l := fun p P hp => sumF_eq _ _ _ (fun c co hc => by
      obtain ⟨e1, e2, e3, e4⟩ := (v1.2 p P hp).2.2.2.2.2.2.2 c co hc
      rw [e1, e2])
    have hsum : sumF (fun p => owedP ((S.1.1[p]?).getD ((0, 0, 0, 0), [], fun _ => 0)) l) S.1.1.length = sumL (S.1.1.map (fun P => owedP P l)) := sumF_eq _ _ _ (fun p P hp => by rw [hp]; rfl)
    have key : ∀ fuel i, S.1.1.length - i < fuel → i ≤ S.1.1.length → ∀ v4 v5, v4.category = 1 → v5.category = 1 → Wa mX7_owed (0, fun _ => 0) d 0 0 sh.length (PI sh (fun x m => x = minI (sumL (S.1.1.map (fun P => owedP P l))) 9999999 ∧ GoodM sh me m S)) 13 [.ref 136, .int l, .int (sumF (fun p => owedP ((S.1.1[p]?).getD ((0, 0, 0, 0), [], fun _ => 0)) l) i), .int (nI i), v4, v5] [] sh me 0 0 := by
      intro fuel
      induction fuel with
      | zero => intro i h; omega
      | succ fuel ih =>
        intro i hi hin2 v4 v5 hv4 hv5
        refine ld_i3 (np := 14) dX7_owed_13 rfl ?_
        refine ld_a0 (np := 15) dX7_owed_14 rfl ?_
        refine wl_geti (np := 18) dX7_owed_15 rfl fl_X7_64 (by decide) (by assumption) ?_
        refine wl_icmp_ge (np := 21) (tg := 93) dX7_owed_18 rfl rfl (fun c_18 => ?_) (fun c_18 => ?_)
        · rw [v3, nI_le_iff (by omega) (by omega)] at c_18
          rw [show i = S.1.1.length by omega, hsum]
          unfold minI
          refine ld_i2 (np := 94) dX7_owed_93 rfl ?_
          refine wl_ldc (np := 96) dX7_owed_94 rfl wk_X7_90 ?_
          refine wl_icmp_le (np := 99) (tg := 104) dX7_owed_96 rfl rfl (fun c_96 => ?_) (fun c_96 => ?_)
          · rw [if_neg (Int32.not_lt.mpr c_96)]
            refine ld_i2 (np := 105) dX7_owed_104 rfl ?_
            refine wi_ret dX7_owed_105 rfl (rfl) (Nat.le_refl _) (Nat.le_refl _) ?_
            exact ⟨rfl, GoodM.same hFs hR⟩
          · rw [if_pos (Int32.not_le.mp c_96)]
            refine wl_ldc (np := 101) dX7_owed_99 rfl wk_X7_90 ?_
            refine wl_goto (tg := 105) dX7_owed_101 rfl ?_
            refine wi_ret dX7_owed_105 rfl (rfl) (Nat.le_refl _) (Nat.le_refl _) ?_
            exact ⟨rfl, GoodM.same hFs hR⟩
        · rw [v3, nI_le_iff (by omega) (by omega)] at c_18
          obtain ⟨P, hPi⟩ : ∃ P, S.1.1[i]? = some P := ⟨_, List.getElem?_eq_getElem (by omega)⟩
          obtain ⟨y1, y2, y3, y4, y5, y6, y7, y8⟩ := v1.2 i P hPi
          have e : sumF (fun p => owedP ((S.1.1[p]?).getD ((0, 0, 0, 0), [], fun _ => 0)) l) (i + 1) = sumF (fun p => owedP ((S.1.1[p]?).getD ((0, 0, 0, 0), [], fun _ => 0)) l) i + owedP P l := by
            show _ + owedP ((S.1.1[i]?).getD ((0, 0, 0, 0), [], fun _ => 0)) l = _
            rw [hPi]; rfl
          have key2 : ∀ fuel2 c, P.2.1.length - c < fuel2 → c ≤ P.2.1.length → ∀ v5, v5.category = 1 → Wa mX7_owed (0, fun _ => 0) d 0 0 sh.length (PI sh (fun x m => x = minI (sumL (S.1.1.map (fun P => owedP P l))) 9999999 ∧ GoodM sh me m S)) 24 [.ref 136, .int l, .int (sumF (fun p => owedP ((S.1.1[p]?).getD ((0, 0, 0, 0), [], fun _ => 0)) l) i + sumF (fun c => if gI me 137 (40 * i + 8 + 4 * c) = l then gI me 137 (40 * i + 8 + 4 * c + 1) else 0) c), .int (nI i), .int (nI c), v5] [] sh me 0 0 := by
            intro fuel2
            induction fuel2 with
            | zero => intro c h; omega
            | succ fuel2 ih2 =>
              intro c hc hcn v5 hv5
              refine ld_i4 (np := 26) dX7_owed_24 rfl ?_
              refine ld_a0 (np := 27) dX7_owed_26 rfl ?_
              refine wl_getr (np := 30) dX7_owed_27 rfl fl_X7_7 rfl (by assumption) (by assumption) ?_
              refine wl_bipush (np := 32) (v := nI 40) dX7_owed_30 rfl (by decide) ?_
              refine ld_i3 (np := 33) dX7_owed_32 rfl ?_
              refine wl_imul (np := 34) dX7_owed_33 rfl ?_
              refine wl_iconst (np := 35) (v := nI 3) dX7_owed_34 rfl (rfl) ?_
              refine wl_iadd (np := 36) dX7_owed_35 rfl ?_
              refine wl_ialoadN (np := 37) dX7_owed_36 rfl (by first | (simp only [nIm, nIa, ← nI_succ]; exact rfl) | exact nI_z | exact nI_o | exact rfl) (by assumption) (by omega) (by decide) ?_
              refine wl_icmp_ge (np := 40) (tg := 87) dX7_owed_37 rfl rfl (fun c_37 => ?_) (fun c_37 => ?_)
              · rw [y4, nI_le_iff (by omega) (by omega)] at c_37
                rw [show c = P.2.1.length by omega, hin i P hPi, ← e]
                refine inc_3 (np := 90) (v := _ + 1) dX7_owed_87 rfl rfl (by decide) rfl ?_
                refine wl_goto (tg := 13) dX7_owed_90 rfl ?_
                rw [← nI_succ]
                exact ih (i + 1) (by omega) (by omega) _ _ rfl hv5
              · rw [y4, nI_le_iff (by omega) (by omega)] at c_37
                have k79 : ∀ v, v = (if gI me 137 (40 * i + 8 + 4 * c) = l then gI me 137 (40 * i + 8 + 4 * c + 1) else 0) → ∀ v5, v5.category = 1 → Wa mX7_owed (0, fun _ => 0) d 0 0 sh.length (PI sh (fun x m => x = minI (sumL (S.1.1.map (fun P => owedP P l))) 9999999 ∧ GoodM sh me m S)) 79 [.ref 136, .int l, .int (sumF (fun p => owedP ((S.1.1[p]?).getD ((0, 0, 0, 0), [], fun _ => 0)) l) i + sumF (fun c => if gI me 137 (40 * i + 8 + 4 * c) = l then gI me 137 (40 * i + 8 + 4 * c + 1) else 0) c), .int (nI i), .int (nI c), v5] [.int v, .int (sumF (fun p => owedP ((S.1.1[p]?).getD ((0, 0, 0, 0), [], fun _ => 0)) l) i + sumF (fun c => if gI me 137 (40 * i + 8 + 4 * c) = l then gI me 137 (40 * i + 8 + 4 * c + 1) else 0) c)] sh me 0 0 := by
                  intro v hv v5 hv5
                  refine wl_iadd (np := 80) dX7_owed_79 rfl ?_
                  refine st_i2 (np := 81) dX7_owed_80 rfl (by decide) rfl ?_
                  refine inc_4 (np := 84) (v := _ + 1) dX7_owed_81 rfl rfl (by decide) rfl ?_
                  refine wl_goto (tg := 24) dX7_owed_84 rfl ?_
                  rw [← nI_succ, Int32.add_assoc, hv]
                  exact ih2 (c + 1) (by omega) (by omega) _ hv5
                refine wl_bipush (np := 42) (v := nI 40) dX7_owed_40 rfl (by decide) ?_
                refine ld_i3 (np := 43) dX7_owed_42 rfl ?_
                refine wl_imul (np := 44) dX7_owed_43 rfl ?_
                refine wl_bipush (np := 46) (v := nI 8) dX7_owed_44 rfl (by decide) ?_
                refine wl_iadd (np := 47) dX7_owed_46 rfl ?_
                refine wl_iconst (np := 48) (v := nI 4) dX7_owed_47 rfl (rfl) ?_
                refine ld_i4 (np := 50) dX7_owed_48 rfl ?_
                refine wl_imul (np := 51) dX7_owed_50 rfl ?_
                refine wl_iadd (np := 52) dX7_owed_51 rfl ?_
                refine st_i5 (np := 54) dX7_owed_52 rfl (by decide) rfl ?_
                refine ld_i2 (np := 55) dX7_owed_54 rfl ?_
                refine ld_a0 (np := 56) dX7_owed_55 rfl ?_
                refine wl_getr (np := 59) dX7_owed_56 rfl fl_X7_7 rfl (by assumption) (by assumption) ?_
                refine ld_i5 (np := 61) dX7_owed_59 rfl ?_
                refine wl_ialoadN (np := 62) dX7_owed_61 rfl (by first | (simp only [nIm, nIa, ← nI_succ]; exact rfl) | exact nI_z | exact nI_o | exact rfl) (by assumption) (by omega) (by decide) ?_
                refine ld_i1 (np := 63) dX7_owed_62 rfl ?_
                refine wl_icmp_ne (np := 66) (tg := 78) dX7_owed_63 rfl rfl (fun c_63 => ?_) (fun c_63 => ?_)
                · refine wl_iconst (np := 79) (v := 0) dX7_owed_78 rfl (rfl) ?_
                  exact k79 _ (if_neg c_63).symm _ rfl
                · refine ld_a0 (np := 67) dX7_owed_66 rfl ?_
                  refine wl_getr (np := 70) dX7_owed_67 rfl fl_X7_7 rfl (by assumption) (by assumption) ?_
                  refine ld_i5 (np := 72) dX7_owed_70 rfl ?_
                  refine wl_iconst (np := 73) (v := 1) dX7_owed_72 rfl (rfl) ?_
                  refine wl_iadd (np := 74) dX7_owed_73 rfl ?_
                  refine wl_ialoadN (np := 75) dX7_owed_74 rfl (by first | (simp only [nIm, nIa, ← nI_succ]; exact rfl) | exact nI_z | exact nI_o | exact rfl) (by assumption) (by omega) (by decide) ?_
                  refine wl_goto (tg := 79) dX7_owed_75 rfl ?_
                  exact k79 _ (if_pos c_63).symm _ rfl
          refine wl_iconst (np := 22) (v := 0) dX7_owed_21 rfl (rfl) ?_
          refine st_i4 (np := 24) dX7_owed_22 rfl (by decide) rfl ?_
          have h0 := key2 (P.2.1.length + 1) 0 (by omega) (by omega) v5 hv5
          rw [show sumF (fun c => if gI me 137 (40 * i + 8 + 4 * c) = l then gI me 137 (40 * i + 8 + 4 * c + 1) else 0) 0 = 0 from rfl, Int32.add_zero] at h0
          exact h0
    refine wl_iconst (np := 10) (v := 0) dX7_owed_9 rfl (rfl) ?_
    refine st_i2 (np := 11) dX7_owed_10 rfl (by decide) rfl ?_
    refine wl_iconst (np := 12) (v := 0) dX7_owed_11 rfl (rfl) ?_
    refine st_i3 (np := 13) dX7_owed_12 rfl (by decide) rfl ?_
    exact key (S.1.1.length + 1) 0 (by omega) (by omega) _ _ rfl rfl
  · unfold sp_owed
    rw [cif_f (if0 c_4)]
    refine wl_iconst (np := 8) (v := -1) dX7_owed_7 rfl (rfl) ?_
    refine wi_ret dX7_owed_8 rfl (rfl) (Nat.le_refl _) (Nat.le_refl _) ?_
    exact ⟨rfl, GoodM.same hFs hR⟩
end M8
