theorem if0 {P : Prop} [Decidable P] (h : (if P then (1 : Int32) else 0) = 0) : ¬ P := fun q => by rw [if_pos q] at h; exact absurd h (by decide)
theorem if1 {P : Prop} [Decidable P] (h : ¬ (if P then (1 : Int32) else 0) = 0) : P := Classical.byContradiction fun q => h (if_neg q)
theorem or0 {P : Prop} {x : Int32} (h : x = 1 ∧ P ∨ x = 0 ∧ ¬ P) (hx : x = 0) : ¬ P := by
  rcases h with ⟨h1, -⟩ | ⟨-, h2⟩
  · rw [hx] at h1; exact absurd h1 (by decide)
  · exact h2
theorem or1 {P : Prop} {x : Int32} (h : x = 1 ∧ P ∨ x = 0 ∧ ¬ P) (hx : ¬ x = 0) : P := by
  rcases h with ⟨-, h2⟩ | ⟨h1, -⟩
  · exact h2
  · exact absurd h1 hx
def okPr (k day : Nat) (P : Prs) : Prop := (0 ≤ P.1.1.toInt ∧ P.1.1.toInt ≤ 10000 * k + 99 * day) ∧ (0 ≤ P.1.2.1.toInt ∧ P.1.2.1.toInt ≤ 99) ∧ (P.1.2.2.2 = -4 ∨ 0 ≤ P.1.2.2.2.toInt) ∧ (∀ co ∈ P.2.1, (∃ l, l < 5 ∧ co.1 = nI l) ∧ (0 ≤ co.2.1.toInt ∧ co.2.1.toInt ≤ 999999) ∧ (0 ≤ co.2.2.1.toInt ∧ co.2.2.1.toInt ≤ 20)) ∧ ∀ l, l < 5 → 0 ≤ (P.2.2 l).toInt ∧ (P.2.2 l).toInt ≤ 9
def wfW (k : Nat) (W : Wld) : Prop := (∀ P ∈ W.1, okPr k W.2.2.2.1 P) ∧ W.2.2.2.1 ≤ 359 ∧ W.1.length ≤ 5
def WfS (k : Nat) (S : St) : Prop := wfW k S.1 ∧ (∀ V, S.2.1 = some V → wfW k V) ∧ okB S.2.2.1.2 S.2.2.1.1
theorem wfW.len {k : Nat} {W : Wld} (h : wfW k W) : lenW W := fun P hP co hco => ((h.1 P hP).2.2.2.1 co hco).1
theorem RepW.g4 {me m : Mem} {w : Nat} {W : Wld} {ps : List Prs} (h : RepW me w W) (hps : RepPs m w ps) (hl : gI m w 4 = nI ps.length) (hb : ∀ b, b ≠ 4 → gI m w b = gI me w b) (hm : ∀ a b, w < a → a < w + 5 → gI m a b = gI me a b) : RepW m w (ps, W.2) := by
  obtain ⟨h1, h2, h3, h4, h5, h6, h7, h8, h9, h10, h11⟩ := h
  exact ⟨hps, hl, fun j hj => (hm _ _ (by omega) (by omega)).trans (h3 j hj), (hb _ (by omega)).trans h4, (hb _ (by omega)).trans h5, (hb _ (by omega)).trans h6, (hb _ (by omega)).trans h7, h8, (hb _ (by omega)).trans h9, h10, fun k a hk => ⟨(hm _ _ (by omega) (by omega)).trans (h11 k a hk).1, (hm _ _ (by omega) (by omega)).trans (h11 k a hk).2⟩⟩
section DC1
variable {sh : List Shp} {me : Mem} {d : Nat} {S : St}
set_option maxHeartbeats 4000000 in
set_option maxRecDepth 100000 in
theorem c_dc_person (pu inc str : Int32) (hF : FixC sh me) (hR : RepC me S) (hd : 2 ≤ d) : CI d mX6_person sh [.ref 0, .int pu, .int inc, .int str] me (fun x m => x = (sp_person S pu inc str).1 ∧ GoodC sh me m (sp_person S pu inc str).2) := by
  have hFs := hF
  obtain ⟨z0, ⟨g0, g1, g2, g3, g4, g5, g6, g7⟩, ⟨w1, w2, w3, pp1, l1, b1, t1⟩, zs, zss⟩ := hF
  have hw1 := w1
  obtain ⟨s0, s1, s2, s3, s4, r0, r1, r2, r3, hP⟩ := w1
  have hn := hR.1.2.1
  have hn5 := hR.1.1.1
  refine CI.mk (L := [.ref 0, .int pu, .int inc, .int str]) (by decide) (Nat.le_of_ble_eq_true rfl) rfl ?_
  have bad : ¬ (inR pu 0 9999 ∧ inR inc 0 99 ∧ inR str 1 60) → ∀ L4, Wa mX6_person (0, fun _ => 0) d 0 0 sh.length (PI sh (fun x m => x = (sp_person S pu inc str).1 ∧ GoodC sh me m (sp_person S pu inc str).2)) 31 L4 [] sh me 0 0 := by
    intro hb L4
    unfold sp_person
    rw [cif_f hb]
    refine wl_iconst (np := 32) (v := -1) dX6_person_31 rfl (rfl) ?_
    refine wi_ret dX6_person_32 rfl (rfl) (Nat.le_refl _) (Nat.le_refl _) ?_
    exact ⟨rfl, GoodC.same hFs hR⟩
  refine ld_i1 (np := 1) dX6_person_0 rfl ?_
  refine wl_iconst (np := 2) (v := 0) dX6_person_1 rfl (rfl) ?_
  refine wl_sipush (np := 5) (v := 9999) dX6_person_2 rfl (by decide) ?_
  refine ciS_3 (np := 8) dX6_person_5 rfl lk_X6_61 (Nat.le_of_ble_eq_true rfl) (by omega) (Nat.le_refl _) (Nat.le_refl _) (c_isWithin _ _ _) (fun x_5 m_5 h_5 => ?_)
  obtain ⟨rfl, q_5⟩ := h_5
  have q_5 := q_5.symm
  subst q_5
  refine wl_if_eq (np := 11) (tg := 31) dX6_person_8 rfl rfl (fun c_8 => ?_) (fun c_8 => ?_)
  · exact bad (fun h => if0 c_8 h.1) _
  · refine ld_i2 (np := 12) dX6_person_11 rfl ?_
    refine wl_iconst (np := 13) (v := 0) dX6_person_12 rfl (rfl) ?_
    refine wl_bipush (np := 15) (v := 99) dX6_person_13 rfl (by decide) ?_
    refine ciS_3 (np := 18) dX6_person_15 rfl lk_X6_61 (Nat.le_of_ble_eq_true rfl) (by omega) (Nat.le_refl _) (Nat.le_refl _) (c_isWithin _ _ _) (fun x_15 m_15 h_15 => ?_)
    obtain ⟨rfl, q_15⟩ := h_15
    have q_15 := q_15.symm
    subst q_15
    refine wl_if_eq (np := 21) (tg := 31) dX6_person_18 rfl rfl (fun c_18 => ?_) (fun c_18 => ?_)
    · exact bad (fun h => if0 c_18 h.2.1) _
    · refine ld_i3 (np := 22) dX6_person_21 rfl ?_
      refine wl_iconst (np := 23) (v := 1) dX6_person_22 rfl (rfl) ?_
      refine wl_bipush (np := 25) (v := 60) dX6_person_23 rfl (by decide) ?_
      refine ciS_3 (np := 28) dX6_person_25 rfl lk_X6_61 (Nat.le_of_ble_eq_true rfl) (by omega) (Nat.le_refl _) (Nat.le_refl _) (c_isWithin _ _ _) (fun x_25 m_25 h_25 => ?_)
      obtain ⟨rfl, q_25⟩ := h_25
      have q_25 := q_25.symm
      subst q_25
      refine wl_if_ne (np := 31) (tg := 33) dX6_person_28 rfl rfl (fun c_28 => ?_) (fun c_28 => ?_)
      · have hgood : inR pu 0 9999 ∧ inR inc 0 99 ∧ inR str 1 60 := ⟨if1 c_8, if1 c_18, if1 c_28⟩
        unfold sp_person
        rw [cif_t hgood]
        refine ld_a0 (np := 34) dX6_person_33 rfl ?_
        refine wl_getr (np := 37) dX6_person_34 rfl fl_X6_10 rfl (by assumption) (by assumption) ?_
        refine wl_geti (np := 40) dX6_person_37 rfl fl_X6_65 (by decide) (by assumption) ?_
        refine wl_iconst (np := 41) (v := 5) dX6_person_40 rfl (rfl) ?_
        refine wl_icmp_lt (np := 44) (tg := 47) dX6_person_41 rfl rfl (fun c_41 => ?_) (fun c_41 => ?_)
        · rw [hn, show (5 : Int32) = nI 5 from rfl, nI_ltI (by omega) (by decide)] at c_41
          rw [if_neg (by omega)]
          obtain ⟨ga, gb⟩ := hP S.1.1.length (by omega)
          have sP := gb.1
          refine ld_a0 (np := 48) dX6_person_47 rfl ?_
          refine wl_getr (np := 51) dX6_person_48 rfl fl_X6_10 rfl (by assumption) (by first | assumption | (rw [hn, nI_clamp (by omega)]; assumption)) ?_
          refine wl_getr (np := 54) dX6_person_51 rfl fl_X6_69 rfl (by assumption) (by first | assumption | (rw [hn, nI_clamp (by omega)]; assumption)) ?_
          refine ld_a0 (np := 55) dX6_person_54 rfl ?_
          refine wl_getr (np := 58) dX6_person_55 rfl fl_X6_10 rfl (by assumption) (by first | assumption | (rw [hn, nI_clamp (by omega)]; assumption)) ?_
          refine wl_geti (np := 61) dX6_person_58 rfl fl_X6_65 (by decide) (by assumption) ?_
          refine wl_aaload (np := 62) dX6_person_61 rfl (by assumption) (by decide) (by rw [hn]; exact vp_in_nI (by omega) (by decide)) (by first | assumption | (rw [hn, nI_clamp (by omega)]; assumption)) ?_
          refine ld_i1 (np := 63) dX6_person_62 rfl ?_
          refine ld_i2 (np := 64) dX6_person_63 rfl ?_
          refine ld_i3 (np := 65) dX6_person_64 rfl ?_
          refine cvV_3 (np := 68) dX6_person_65 rfl lk_X6_73 (by assumption) (Nat.le_of_ble_eq_true rfl) (by omega) (Nat.le_refl _) (Nat.le_refl _) (c_begin pu inc str gb (by omega)) (fun m_65 h_65 => ?_)
          have q_65 := h_65.symm
          subst q_65
          refine ld_a0 (np := 69) dX6_person_68 rfl ?_
          refine wl_getr (np := 72) dX6_person_69 rfl fl_X6_10 rfl (by assumption) (by first | assumption | (rw [hn, nI_clamp (by omega)]; assumption)) ?_
          refine wl_dup (np := 73) dX6_person_72 rfl rfl ?_
          refine wl_geti (np := 76) dX6_person_73 rfl fl_X6_65 (by decide) (by assumption) ?_
          refine wl_iconst (np := 77) (v := 1) dX6_person_76 rfl (rfl) ?_
          refine wl_iadd (np := 78) dX6_person_77 rfl ?_
          refine wl_puti (np := 81) dX6_person_78 rfl fl_X6_65 nf_5_4 rfl (by assumption) ?_
          refine ld_a0 (np := 82) dX6_person_81 rfl ?_
          refine wl_getr (np := 85) dX6_person_82 rfl fl_X6_10 rfl (by assumption) (by first | assumption | (rw [hn, nI_clamp (by omega)]; assumption)) ?_
          refine wl_geti (np := 88) dX6_person_85 rfl fl_X6_65 (by decide) (by assumption) ?_
          refine wl_iconst (np := 89) (v := 1) dX6_person_88 rfl (rfl) ?_
          refine wl_isub (np := 90) dX6_person_89 rfl ?_
          refine wi_ret dX6_person_90 rfl (rfl) (Nat.le_refl _) (Nat.le_refl _) ?_
          have ho := onl_begin me (1 + 5 + 6 * S.1.1.length) pu inc str
          have hb := rep_begin me (1 + 5 + 6 * S.1.1.length) pu inc str
          generalize hM : beginM me (1 + 5 + 6 * S.1.1.length) pu inc str = m1 at ho hb ⊢
          have e4 : gI m1 1 4 = nI S.1.1.length := (ho.g (by omega)).trans hn
          rw [e4, ← nI_succ, gI_uI_self, nI_pred]
          refine ⟨rfl, ?_⟩
          have hOm : Onl me (uI m1 1 4 (nI (S.1.1.length + 1))) 1 36 := (ho.wd (by omega) (by omega)).tr ⟨rfl, fun a ha => gI_uI_ne (by omega)⟩
          refine GoodC.w hFs hR (RfK.of hOm.1) (fun a h1 h2 => hOm.2 a (by omega)) (hR.1.g4 ⟨by simp; omega, fun p P hp => ?_⟩ ?_ (fun b hb4 => ?_) (fun a b h1 h2 => ?_))
          · by_cases hlt : p < S.1.1.length
            · rw [List.getElem?_append_left hlt] at hp
              exact (hR.1.1.2 p P hp).fr (fun a ha hb => (gI_uI_ne (by omega)).trans (ho.2 a (by omega)))
            · rw [List.getElem?_append_right (by omega)] at hp
              have hz : p - S.1.1.length < 1 := (List.getElem?_eq_some_iff.mp hp).1
              have hpe : p = S.1.1.length := by omega
              subst hpe
              rw [Nat.sub_self] at hp
              cases hp
              exact hb.fr (fun a ha hb => gI_uI_ne (by omega))
          · rw [gI_uI_self]; simp
          · rw [gI_uI_nb hb4]; exact ho.g (by omega)
          · rw [gI_uI_ne (by omega)]; exact ho.g (by omega)
        · rw [hn, show (5 : Int32) = nI 5 from rfl, nI_ltI (by omega) (by decide)] at c_41
          rw [if_pos (by omega)]
          refine wl_bipush (np := 46) (v := -3) dX6_person_44 rfl (by decide) ?_
          refine wi_ret dX6_person_46 rfl (rfl) (Nat.le_refl _) (Nat.le_refl _) ?_
          exact ⟨rfl, GoodC.same hFs hR⟩
      · exact bad (fun h => if0 c_28 h.2.2) _
theorem sw_cases {x : Int32} (n : Nat) (h : n < 100) : (x.toInt < 0 ∨ (n : Int) < x.toInt) ∨ ∃ j, j ≤ n ∧ x = nI j := by
  by_cases h1 : x.toInt < 0 ∨ (n : Int) < x.toInt
  · exact Or.inl h1
  · refine Or.inr ?_
    obtain ⟨j, hj, rfl⟩ := nI_of (x := x) (fun q => h1 (Or.inl (by have := Int32.lt_iff_toInt_lt.mp q; have e0 : (0 : Int32).toInt = 0 := rfl; omega)))
    rw [nI_toInt hj] at h1
    exact ⟨j, by omega, rfl⟩
theorem sw_ne {x : Int32} {n : Nat} (hn : n < 100) (h : x.toInt < 0 ∨ (n : Int) < x.toInt) : ∀ j, j ≤ n → ¬ x = nI j := by
  intro j hj q
  rw [q, nI_toInt (by omega)] at h
  omega
set_option maxHeartbeats 4000000 in
set_option maxRecDepth 100000 in
theorem c_dc_of (p w : Int32) (hF : FixC sh me) (hR : RepC me S) (hd : 2 ≤ d) : CI d mX6_of sh [.ref 0, .int p, .int w] me (fun x m => x = (sp_of S p w).1 ∧ GoodC sh me m (sp_of S p w).2) := by
  have hFs := hF
  obtain ⟨z0, ⟨g0, g1, g2, g3, g4, g5, g6, g7⟩, ⟨w1, w2, w3, pp1, l1, b1, t1⟩, zs, zss⟩ := hF
  have hw1 := w1
  obtain ⟨s0, s1, s2, s3, s4, r0, r1, r2, r3, hP⟩ := w1
  have hn5 := hR.1.1.1
  refine CI.mk (L := [.ref 0, .int p, .int w, .float 0]) (by decide) (Nat.le_of_ble_eq_true rfl) rfl ?_
  refine ld_a0 (np := 1) dX6_of_0 rfl ?_
  refine wl_getr (np := 4) dX6_of_1 rfl fl_X6_10 rfl (by assumption) (by assumption) ?_
  refine ld_i1 (np := 5) dX6_of_4 rfl ?_
  refine ciV_1 (np := 8) dX6_of_5 rfl lk_X6_77 (by assumption) (Nat.le_of_ble_eq_true rfl) (by omega) (Nat.le_refl _) (Nat.le_refl _) (c_hasPerson p hw1 hR.1 (by omega)) (fun x_5 m_5 h_5 => ?_)
  obtain ⟨h5, q5⟩ := h_5
  have q5 := q5.symm
  subst q5
  refine wl_if_ne (np := 11) (tg := 13) dX6_of_8 rfl rfl (fun c_8 => ?_) (fun c_8 => ?_)
  · obtain ⟨k, hk, rfl⟩ := or1 h5 c_8
    obtain ⟨P, hPk⟩ : ∃ P, S.1.1[k]? = some P := ⟨_, List.getElem?_eq_getElem hk⟩
    have hrP := hR.1.1.2 k P hPk
    obtain ⟨ga, gb⟩ := hP k (by omega)
    have gb0 := gb
    obtain ⟨t0, t1', t2, t3, t4, t5, u0, u1, u2, u3, u4⟩ := gb0
    have hsp : sp_of S (nI k) w = (ofS P w, S) := by unfold sp_of; rw [cif_t ⟨k, hk, rfl⟩, getP_nI hPk (by omega)]
    rw [hsp]
    refine ld_a0 (np := 14) dX6_of_13 rfl ?_
    refine wl_getr (np := 17) dX6_of_14 rfl fl_X6_10 rfl (by assumption) (by first | assumption | (rw [nI_clamp (by omega)]; assumption)) ?_
    refine wl_getr (np := 20) dX6_of_17 rfl fl_X6_69 rfl (by assumption) (by first | assumption | (rw [nI_clamp (by omega)]; assumption)) ?_
    refine ld_i1 (np := 21) dX6_of_20 rfl ?_
    refine wl_aaload (np := 22) dX6_of_21 rfl (by assumption) (by decide) (vp_in_nI (by omega) (by decide)) (by first | assumption | (rw [nI_clamp (by omega)]; assumption)) ?_
    refine st_a3 (np := 23) dX6_of_22 rfl (by decide) rfl ?_
    refine ld_i2 (np := 24) dX6_of_23 rfl ?_
    rcases sw_cases (x := w) 6 (by decide) with hout | ⟨j, hj, rfl⟩
    · refine wl_tswO (tg := 108) dX6_of_24 hout rfl ?_
      have hne := sw_ne (by decide) hout
      refine wl_iconst (np := 109) (v := -1) dX6_of_108 rfl (rfl) ?_
      refine wi_ret dX6_of_109 rfl (rfl) (Nat.le_refl _) (Nat.le_refl _) ?_
      refine ⟨?_, GoodC.same hFs hR⟩
      unfold ofS
      rw [if_neg (show ¬ w = 0 from hne 0 (by omega)), if_neg (show ¬ w = 1 from hne 1 (by omega)), if_neg (show ¬ w = 2 from hne 2 (by omega)), if_neg (show ¬ w = 3 from hne 3 (by omega)), if_neg (show ¬ w = 4 from hne 4 (by omega)), if_neg (show ¬ w = 5 from hne 5 (by omega)), if_neg (show ¬ w = 6 from hne 6 (by omega))]
    · have hsum5 : sumF (gI me (1 + 5 + 6 * k + 2)) P.2.1.length = sumL (P.2.1.map (fun co => co.2.1)) := sumF_eq _ _ _ (fun c co hc => (hrP.2.2.2.2.2.2.1 c co hc).2.1)
      have hsum4 : sumF (gI me (1 + 5 + 6 * k + 4)) P.2.1.length = thickOf P := sumF_eq _ _ _ (fun c co hc => (hrP.2.2.2.2.2.2.1 c co hc).2.2.2)
      match j, hj with
      | 0, _ =>
        refine wl_tswI (tg := 68) (off := 44) dX6_of_24 (by decide) (by decide) (by decide) rfl ?_
        refine ld_a3 (np := 69) dX6_of_68 rfl ?_
        refine wl_geti (np := 72) dX6_of_69 rfl fl_X6_81 (by decide) (by assumption) ?_
        refine wi_ret dX6_of_72 rfl (rfl) (Nat.le_refl _) (Nat.le_refl _) ?_
        exact ⟨hrP.1, GoodC.same hFs hR⟩
      | 1, _ =>
        refine wl_tswI (tg := 73) (off := 49) dX6_of_24 (by decide) (by decide) (by decide) rfl ?_
        refine ld_a3 (np := 74) dX6_of_73 rfl ?_
        refine wl_geti (np := 77) dX6_of_74 rfl fl_X6_84 (by decide) (by assumption) ?_
        refine wi_ret dX6_of_77 rfl (rfl) (Nat.le_refl _) (Nat.le_refl _) ?_
        exact ⟨hrP.2.1, GoodC.same hFs hR⟩
      | 2, _ =>
        refine wl_tswI (tg := 78) (off := 54) dX6_of_24 (by decide) (by decide) (by decide) rfl ?_
        refine ld_a3 (np := 79) dX6_of_78 rfl ?_
        refine wl_geti (np := 82) dX6_of_79 rfl fl_X6_87 (by decide) (by assumption) ?_
        refine wi_ret dX6_of_82 rfl (rfl) (Nat.le_refl _) (Nat.le_refl _) ?_
        exact ⟨hrP.2.2.1, GoodC.same hFs hR⟩
      | 3, _ =>
        refine wl_tswI (tg := 83) (off := 59) dX6_of_24 (by decide) (by decide) (by decide) rfl ?_
        refine ld_a3 (np := 84) dX6_of_83 rfl ?_
        refine wl_geti (np := 87) dX6_of_84 rfl fl_X6_90 (by decide) (by assumption) ?_
        refine wi_ret dX6_of_87 rfl (rfl) (Nat.le_refl _) (Nat.le_refl _) ?_
        exact ⟨hrP.2.2.2.2.1, GoodC.same hFs hR⟩
      | 4, _ =>
        refine wl_tswI (tg := 88) (off := 64) dX6_of_24 (by decide) (by decide) (by decide) rfl ?_
        refine ld_a3 (np := 89) dX6_of_88 rfl ?_
        refine ciV_0 (np := 92) dX6_of_89 rfl lk_X6_93 (by assumption) (Nat.le_of_ble_eq_true rfl) (by omega) (Nat.le_refl _) (Nat.le_refl _) (c_thick gb hrP.2.2.2.2.1 hrP.2.2.2.2.2.1) (fun x_89 m_89 h_89 => ?_)
        obtain ⟨rfl, q_89⟩ := h_89
        have q_89 := q_89.symm
        subst q_89
        refine wi_ret dX6_of_92 rfl (rfl) (Nat.le_refl _) (Nat.le_refl _) ?_
        exact ⟨hsum4, GoodC.same hFs hR⟩
      | 5, _ =>
        refine wl_tswI (tg := 93) (off := 69) dX6_of_24 (by decide) (by decide) (by decide) rfl ?_
        refine ld_a3 (np := 94) dX6_of_93 rfl ?_
        refine ciV_0 (np := 97) dX6_of_94 rfl lk_X6_97 (by assumption) (Nat.le_of_ble_eq_true rfl) (by omega) (Nat.le_refl _) (Nat.le_refl _) (c_amounts gb hrP.2.2.2.2.1 hrP.2.2.2.2.2.1) (fun x_94 m_94 h_94 => ?_)
        obtain ⟨rfl, q_94⟩ := h_94
        have q_94 := q_94.symm
        subst q_94
        refine wl_ldc (np := 99) dX6_of_97 rfl wk_X6_100 ?_
        refine wl_min (np := 102) dX6_of_99 rfl lk_X6_101 (Nat.le_of_ble_eq_true rfl) (by omega) (Nat.le_refl _) (Nat.le_refl _) ?_
        refine wi_ret dX6_of_102 rfl (rfl) (Nat.le_refl _) (Nat.le_refl _) ?_
        refine ⟨?_, GoodC.same hFs hR⟩
        rw [hsum5]
        rfl
      | 6, _ =>
        refine wl_tswI (tg := 103) (off := 79) dX6_of_24 (by decide) (by decide) (by decide) rfl ?_
        refine ld_a3 (np := 104) dX6_of_103 rfl ?_
        refine wl_geti (np := 107) dX6_of_104 rfl fl_X6_107 (by decide) (by assumption) ?_
        refine wi_ret dX6_of_107 rfl (rfl) (Nat.le_refl _) (Nat.le_refl _) ?_
        exact ⟨hrP.2.2.2.1, GoodC.same hFs hR⟩
  · unfold sp_of
    rw [cif_f (or0 h5 c_8)]
    refine wl_iconst (np := 12) (v := -1) dX6_of_11 rfl (rfl) ?_
    refine wi_ret dX6_of_12 rfl (rfl) (Nat.le_refl _) (Nat.le_refl _) ?_
    exact ⟨rfl, GoodC.same hFs hR⟩
set_option maxHeartbeats 4000000 in
set_option maxRecDepth 100000 in
theorem c_dc_coat (p c w : Int32) (hF : FixC sh me) (hR : RepC me S) (hd : 3 ≤ d) : CI d mX6_coat sh [.ref 0, .int p, .int c, .int w] me (fun x m => x = (sp_coat S p c w).1 ∧ GoodC sh me m (sp_coat S p c w).2) := by
  have hFs := hF
  obtain ⟨z0, ⟨g0, g1, g2, g3, g4, g5, g6, g7⟩, ⟨w1, w2, w3, pp1, l1, b1, t1⟩, zs, zss⟩ := hF
  have hw1 := w1
  obtain ⟨s0, s1, s2, s3, s4, r0, r1, r2, r3, hP⟩ := w1
  have hn5 := hR.1.1.1
  refine CI.mk (L := [.ref 0, .int p, .int c, .int w, .float 0]) (by decide) (Nat.le_of_ble_eq_true rfl) rfl ?_
  refine ld_a0 (np := 1) dX6_coat_0 rfl ?_
  refine wl_getr (np := 4) dX6_coat_1 rfl fl_X6_10 rfl (by assumption) (by assumption) ?_
  refine ld_i1 (np := 5) dX6_coat_4 rfl ?_
  refine ld_i2 (np := 6) dX6_coat_5 rfl ?_
  refine ciV_2 (np := 9) dX6_coat_6 rfl lk_X6_110 (by assumption) (Nat.le_of_ble_eq_true rfl) (by omega) (Nat.le_refl _) (Nat.le_refl _) (c_hasCoat p c hw1 hR.1 (by omega)) (fun x_6 m_6 h_6 => ?_)
  obtain ⟨h6, q6⟩ := h_6
  have q6 := q6.symm
  subst q6
  refine wl_if_ne (np := 12) (tg := 14) dX6_coat_9 rfl rfl (fun c_9 => ?_) (fun c_9 => ?_)
  · have hct := or1 h6 c_9
    obtain ⟨k, P, j, hPk, rfl, hj, rfl⟩ := or1 h6 c_9
    have hk := (List.getElem?_eq_some_iff.mp hPk).1
    have hrP := hR.1.1.2 k P hPk
    have h8 := hrP.2.2.2.2.2.1
    obtain ⟨ga, gb⟩ := hP k (by omega)
    obtain ⟨t0, t1', t2, t3, t4, t5, u0, u1, u2, u3, u4⟩ := gb
    obtain ⟨co, hco⟩ := hrP.lt hj
    obtain ⟨e1, e2, e3, e4⟩ := hrP.2.2.2.2.2.2.1 j co hco
    have hsp : sp_coat S (nI k) (nI j) w = (coS co w, S) := by
      unfold sp_coat
      rw [cif_t hct, getP_nI hPk (by omega)]
      unfold getC
      rw [nI_clamp (by omega), hco]
      rfl
    rw [hsp]
    refine ld_a0 (np := 15) dX6_coat_14 rfl ?_
    refine wl_getr (np := 18) dX6_coat_15 rfl fl_X6_10 rfl (by assumption) (by first | assumption | (rw [nI_clamp (by omega)]; assumption)) ?_
    refine wl_getr (np := 21) dX6_coat_18 rfl fl_X6_69 rfl (by assumption) (by first | assumption | (rw [nI_clamp (by omega)]; assumption)) ?_
    refine ld_i1 (np := 22) dX6_coat_21 rfl ?_
    refine wl_aaload (np := 23) dX6_coat_22 rfl (by assumption) (by decide) (vp_in_nI (by omega) (by decide)) (by first | assumption | (rw [nI_clamp (by omega)]; assumption)) ?_
    refine st_a4 (np := 25) dX6_coat_23 rfl (by decide) rfl ?_
    refine ld_i3 (np := 26) dX6_coat_25 rfl ?_
    rcases sw_cases (x := w) 3 (by decide) with hout | ⟨i, hi, rfl⟩
    · refine wl_tswO (tg := 88) dX6_coat_26 hout rfl ?_
      have hne := sw_ne (by decide) hout
      refine wl_iconst (np := 89) (v := -1) dX6_coat_88 rfl (rfl) ?_
      refine wi_ret dX6_coat_89 rfl (rfl) (Nat.le_refl _) (Nat.le_refl _) ?_
      refine ⟨?_, GoodC.same hFs hR⟩
      unfold coS
      rw [if_neg (show ¬ w = 0 from hne 0 (by omega)), if_neg (show ¬ w = 1 from hne 1 (by omega)), if_neg (show ¬ w = 2 from hne 2 (by omega)), if_neg (show ¬ w = 3 from hne 3 (by omega))]
    · match i, hi with
      | 0, _ =>
        refine wl_tswI (tg := 56) (off := 30) dX6_coat_26 (by decide) (by decide) (by decide) rfl ?_
        refine ld_a4 (np := 58) dX6_coat_56 rfl ?_
        refine wl_getr (np := 61) dX6_coat_58 rfl fl_X6_114 rfl (by assumption) (by assumption) ?_
        refine ld_i2 (np := 62) dX6_coat_61 rfl ?_
        refine wl_iaload (np := 63) dX6_coat_62 rfl (inA_n t1' (by omega) (by decide)) ?_
        refine wi_ret dX6_coat_63 rfl (rfl) (Nat.le_refl _) (Nat.le_refl _) ?_
        rw [nI_clamp (by omega)]
        exact ⟨e1, GoodC.same hFs hR⟩
      | 1, _ =>
        refine wl_tswI (tg := 64) (off := 38) dX6_coat_26 (by decide) (by decide) (by decide) rfl ?_
        refine ld_a4 (np := 66) dX6_coat_64 rfl ?_
        refine wl_getr (np := 69) dX6_coat_66 rfl fl_X6_118 rfl (by assumption) (by assumption) ?_
        refine ld_i2 (np := 70) dX6_coat_69 rfl ?_
        refine wl_iaload (np := 71) dX6_coat_70 rfl (inA_n t2 (by omega) (by decide)) ?_
        refine wi_ret dX6_coat_71 rfl (rfl) (Nat.le_refl _) (Nat.le_refl _) ?_
        rw [nI_clamp (by omega)]
        exact ⟨e2, GoodC.same hFs hR⟩
      | 2, _ =>
        refine wl_tswI (tg := 72) (off := 46) dX6_coat_26 (by decide) (by decide) (by decide) rfl ?_
        refine ld_a4 (np := 74) dX6_coat_72 rfl ?_
        refine wl_getr (np := 77) dX6_coat_74 rfl fl_X6_121 rfl (by assumption) (by assumption) ?_
        refine ld_i2 (np := 78) dX6_coat_77 rfl ?_
        refine wl_iaload (np := 79) dX6_coat_78 rfl (inA_n t3 (by omega) (by decide)) ?_
        refine wi_ret dX6_coat_79 rfl (rfl) (Nat.le_refl _) (Nat.le_refl _) ?_
        rw [nI_clamp (by omega)]
        exact ⟨e3, GoodC.same hFs hR⟩
      | 3, _ =>
        refine wl_tswI (tg := 80) (off := 54) dX6_coat_26 (by decide) (by decide) (by decide) rfl ?_
        refine ld_a4 (np := 82) dX6_coat_80 rfl ?_
        refine wl_getr (np := 85) dX6_coat_82 rfl fl_X6_124 rfl (by assumption) (by assumption) ?_
        refine ld_i2 (np := 86) dX6_coat_85 rfl ?_
        refine wl_iaload (np := 87) dX6_coat_86 rfl (inA_n t4 (by omega) (by decide)) ?_
        refine wi_ret dX6_coat_87 rfl (rfl) (Nat.le_refl _) (Nat.le_refl _) ?_
        rw [nI_clamp (by omega)]
        exact ⟨e4, GoodC.same hFs hR⟩
  · unfold sp_coat
    rw [cif_f (or0 h6 c_9)]
    refine wl_iconst (np := 13) (v := -1) dX6_coat_12 rfl (rfl) ?_
    refine wi_ret dX6_coat_13 rfl (rfl) (Nat.le_refl _) (Nat.le_refl _) ?_
    exact ⟨rfl, GoodC.same hFs hR⟩
end DC1
