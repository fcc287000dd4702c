section DC2
variable {sh : List Shp} {me : Mem} {d : Nat} {S : St}
theorem set_repPs {me m : Mem} {w k : Nat} {ps : List Prs} {P : Prs} (h : RepPs me w ps) (hk : k < ps.length) (hO : Onl me m (w + 5 + 6 * k) (w + 5 + 6 * k + 6)) (hP : RepP m (w + 5 + 6 * k) P) : RepPs m w (ps.set k P) := by
  refine ⟨by simpa using h.1, fun p P' hp => ?_⟩
  rw [List.getElem?_set] at hp
  by_cases hkp : k = p
  · subst hkp
    rw [if_pos rfl, if_pos hk] at hp
    cases hp
    exact hP
  · rw [if_neg hkp] at hp
    exact (h.2 p P' hp).fr (fun a ha hb => hO.2 a (by omega))
/-- one person's cells have changed -/
theorem GoodC.p {m : Mem} {k : Nat} {P : Prs} (hF : FixC sh me) (hR : RepC me S) (hk : k < S.1.1.length) (hO : Onl me m (1 + 5 + 6 * k) (1 + 5 + 6 * k + 6)) (hP : RepP m (1 + 5 + 6 * k) P) : GoodC sh me m (setPs S (S.1.1.set k P)) := by
  have h5 := hR.1.1.1
  refine GoodC.w hF hR (RfK.of hO.1) (fun a h1 h2 => hO.2 a (by omega)) ?_
  exact hR.1.set hk hO hP
set_option maxHeartbeats 4000000 in
set_option maxRecDepth 100000 in
theorem c_dc_tax (p l v : Int32) (hF : FixC sh me) (hR : RepC me S) (hd : 2 ≤ d) : CI d mX6_tax sh [.ref 0, .int p, .int l, .int v] me (fun x m => x = (sp_tax S p l v).1 ∧ GoodC sh me m (sp_tax S p l v).2) := by
  have hFs := hF
  obtain ⟨z0, ⟨g0, g1, g2, g3, g4, g5, g6, g7⟩, ⟨w1, w2, w3, pp1, l1, b1, t1⟩, zs, zss⟩ := hF
  have hw1 := w1
  obtain ⟨s0, s1, s2, s3, s4, r0, r1, r2, r3, hP⟩ := w1
  have hn5 := hR.1.1.1
  have hn := hR.1.2.1
  refine CI.mk (L := [.ref 0, .int p, .int l, .int v, .float 0, .float 0]) (by decide) (Nat.le_of_ble_eq_true rfl) rfl ?_
  have bad : ¬ (isPn S.1.1 p ∧ inR l 0 4 ∧ inR v 0 9) → ∀ L4, Wa mX6_tax (0, fun _ => 0) d 0 0 sh.length (PI sh (fun x m => x = (sp_tax S p l v).1 ∧ GoodC sh me m (sp_tax S p l v).2)) 28 L4 [] sh me 0 0 := by
    intro hb L4
    unfold sp_tax
    rw [cif_f hb]
    refine wl_iconst (np := 29) (v := -1) dX6_tax_28 rfl (rfl) ?_
    refine wi_ret dX6_tax_29 rfl (rfl) (Nat.le_refl _) (Nat.le_refl _) ?_
    exact ⟨rfl, GoodC.same hFs hR⟩
  refine ld_a0 (np := 1) dX6_tax_0 rfl ?_
  refine wl_getr (np := 4) dX6_tax_1 rfl fl_X6_10 rfl (by assumption) (by assumption) ?_
  refine ld_i1 (np := 5) dX6_tax_4 rfl ?_
  refine ciV_1 (np := 8) dX6_tax_5 rfl lk_X6_77 (by assumption) (Nat.le_of_ble_eq_true rfl) (by omega) (Nat.le_refl _) (Nat.le_refl _) (c_hasPerson p hw1 hR.1 (by omega)) (fun x_5 m_5 h_5 => ?_)
  obtain ⟨h5, q5⟩ := h_5
  have q5 := q5.symm
  subst q5
  refine wl_if_eq (np := 11) (tg := 28) dX6_tax_8 rfl rfl (fun c_8 => ?_) (fun c_8 => ?_)
  · exact bad (fun h => or0 h5 c_8 h.1) _
  · refine ld_i2 (np := 12) dX6_tax_11 rfl ?_
    refine ciS_1 (np := 15) dX6_tax_12 rfl lk_X6_127 (Nat.le_of_ble_eq_true rfl) (by omega) (Nat.le_refl _) (Nat.le_refl _) (c_isLender _ (by omega)) (fun x_12 m_12 h_12 => ?_)
    obtain ⟨rfl, q_12⟩ := h_12
    have q_12 := q_12.symm
    subst q_12
    refine wl_if_eq (np := 18) (tg := 28) dX6_tax_15 rfl rfl (fun c_15 => ?_) (fun c_15 => ?_)
    · exact bad (fun h => if0 c_15 h.2.1) _
    · refine ld_i3 (np := 19) dX6_tax_18 rfl ?_
      refine wl_iconst (np := 20) (v := 0) dX6_tax_19 rfl (rfl) ?_
      refine wl_bipush (np := 22) (v := 9) dX6_tax_20 rfl (by decide) ?_
      refine ciS_3 (np := 25) dX6_tax_22 rfl lk_X6_61 (Nat.le_of_ble_eq_true rfl) (by omega) (Nat.le_refl _) (Nat.le_refl _) (c_isWithin _ _ _) (fun x_22 m_22 h_22 => ?_)
      obtain ⟨rfl, q_22⟩ := h_22
      have q_22 := q_22.symm
      subst q_22
      refine wl_if_ne (np := 28) (tg := 30) dX6_tax_25 rfl rfl (fun c_25 => ?_) (fun c_25 => ?_)
      · have hgood : isPn S.1.1 p ∧ inR l 0 4 ∧ inR v 0 9 := ⟨or1 h5 c_8, if1 c_15, if1 c_25⟩
        have hgood2 := hgood
        obtain ⟨⟨k, hk, rfl⟩, ⟨hl0, hl4⟩, hv⟩ := hgood
        obtain ⟨j, hj, rfl⟩ := nI_of2 (x := l) (M := 4) (n := 4) rfl (Int32.not_lt.mpr hl0) hl4
        obtain ⟨P, hPk⟩ : ∃ P, S.1.1[k]? = some P := ⟨_, List.getElem?_eq_getElem hk⟩
        have hrP := hR.1.1.2 k P hPk
        obtain ⟨ga, gb⟩ := hP k (by omega)
        obtain ⟨t0, t1', t2, t3, t4, t5, u0, u1, u2, u3, u4⟩ := gb
        have hsp : sp_tax S (nI k) (nI j) v = (P.2.2 j, setPs S (S.1.1.set k (taxP P j v))) := by
          unfold sp_tax
          rw [cif_t hgood2, getP_nI hPk (by omega), nI_clamp (by omega), nI_clamp (by omega)]
        rw [hsp]
        refine ld_a0 (np := 31) dX6_tax_30 rfl ?_
        refine wl_getr (np := 34) dX6_tax_31 rfl fl_X6_10 rfl (by assumption) (by first | assumption | (rw [nI_clamp (by omega)]; assumption)) ?_
        refine wl_getr (np := 37) dX6_tax_34 rfl fl_X6_69 rfl (by assumption) (by first | assumption | (rw [nI_clamp (by omega)]; assumption)) ?_
        refine ld_i1 (np := 38) dX6_tax_37 rfl ?_
        refine wl_aaload (np := 39) dX6_tax_38 rfl (by assumption) (by decide) (vp_in_nI (by omega) (by decide)) (by first | assumption | (rw [nI_clamp (by omega)]; assumption)) ?_
        refine wl_getr (np := 42) dX6_tax_39 rfl fl_X6_130 rfl (by assumption) (by first | assumption | (rw [nI_clamp (by omega)]; assumption)) ?_
        refine st_a4 (np := 44) dX6_tax_42 rfl (by decide) rfl ?_
        refine ld_a4 (np := 46) dX6_tax_44 rfl ?_
        refine ld_i2 (np := 47) dX6_tax_46 rfl ?_
        refine wl_iaload (np := 48) dX6_tax_47 rfl (inA_n t5 (by omega) (by decide)) ?_
        refine st_i5 (np := 50) dX6_tax_48 rfl (by decide) rfl ?_
        refine ld_a4 (np := 52) dX6_tax_50 rfl ?_
        refine ld_i2 (np := 53) dX6_tax_52 rfl ?_
        refine ld_i3 (np := 54) dX6_tax_53 rfl ?_
        refine wl_iastore (np := 55) dX6_tax_54 rfl (inA_n t5 (by omega) (by decide)) ?_
        refine ld_i5 (np := 57) dX6_tax_55 rfl ?_
        refine wi_ret dX6_tax_57 rfl (rfl) (Nat.le_refl _) (Nat.le_refl _) ?_
        rw [nI_clamp (by omega)]
        refine ⟨hrP.2.2.2.2.2.2.2 j (by omega), GoodC.p hFs hR hk ⟨rfl, fun a ha => gI_uI_ne (by omega)⟩ ?_⟩
        obtain ⟨e1, e2, e3, e4, e5, e6, e7, e8⟩ := hrP
        have ne : ∀ x y, x ≠ 1 + 5 + 6 * k + 5 → gI (uI me (1 + 5 + 6 * k + 5) j v) x y = gI me x y := fun x y hx => congrFun (gI_uI_ne hx) y
        refine ⟨(ne _ _ (by omega)).trans e1, (ne _ _ (by omega)).trans e2, (ne _ _ (by omega)).trans e3, (ne _ _ (by omega)).trans e4, (ne _ _ (by omega)).trans e5, e6, fun c co hc => ?_, fun i hi => ?_⟩
        · obtain ⟨f1, f2, f3, f4⟩ := e7 c co hc
          exact ⟨(ne _ _ (by omega)).trans f1, (ne _ _ (by omega)).trans f2, (ne _ _ (by omega)).trans f3, (ne _ _ (by omega)).trans f4⟩
        · rw [gI_uI]
          unfold taxP
          dsimp only
          by_cases hij : i = j
          · rw [if_pos ⟨rfl, hij⟩, if_pos hij]
          · rw [if_neg (fun q => hij q.2), if_neg hij]; exact e8 i hi
      · exact bad (fun h => if0 c_25 h.2.2) _
set_option maxHeartbeats 4000000 in
set_option maxRecDepth 100000 in
theorem c_dc_heat (mo v : Int32) (hF : FixC sh me) (hR : RepC me S) (hd : 2 ≤ d) : CI d mX6_heat sh [.ref 0, .int mo, .int v] me (fun x m => x = (sp_heat S mo v).1 ∧ GoodC sh me m (sp_heat S mo v).2) := by
  have hFs := hF
  obtain ⟨z0, ⟨g0, g1, g2, g3, g4, g5, g6, g7⟩, ⟨w1, w2, w3, pp1, l1, b1, t1⟩, zs, zss⟩ := hF
  have hw1 := w1
  obtain ⟨s0, s1, s2, s3, s4, r0, r1, r2, r3, hP⟩ := w1
  have hn5 := hR.1.1.1
  have hn := hR.1.2.1
  refine CI.mk (L := [.ref 0, .int mo, .int v, .float 0]) (by decide) (Nat.le_of_ble_eq_true rfl) rfl ?_
  have bad : ¬ (inR mo 0 11 ∧ inR v 0 40) → ∀ L4, Wa mX6_heat (0, fun _ => 0) d 0 0 sh.length (PI sh (fun x m => x = (sp_heat S mo v).1 ∧ GoodC sh me m (sp_heat S mo v).2)) 20 L4 [] sh me 0 0 := by
    intro hb L4
    unfold sp_heat
    rw [cif_f hb]
    refine wl_iconst (np := 21) (v := -1) dX6_heat_20 rfl (rfl) ?_
    refine wi_ret dX6_heat_21 rfl (rfl) (Nat.le_refl _) (Nat.le_refl _) ?_
    exact ⟨rfl, GoodC.same hFs hR⟩
  refine ld_i1 (np := 1) dX6_heat_0 rfl ?_
  refine wl_iconst (np := 2) (v := 0) dX6_heat_1 rfl (rfl) ?_
  refine wl_bipush (np := 4) (v := 11) dX6_heat_2 rfl (by decide) ?_
  refine ciS_3 (np := 7) dX6_heat_4 rfl lk_X6_61 (Nat.le_of_ble_eq_true rfl) (by omega) (Nat.le_refl _) (Nat.le_refl _) (c_isWithin _ _ _) (fun x_4 m_4 h_4 => ?_)
  obtain ⟨rfl, q_4⟩ := h_4
  have q_4 := q_4.symm
  subst q_4
  refine wl_if_eq (np := 10) (tg := 20) dX6_heat_7 rfl rfl (fun c_7 => ?_) (fun c_7 => ?_)
  · exact bad (fun h => if0 c_7 h.1) _
  · refine ld_i2 (np := 11) dX6_heat_10 rfl ?_
    refine wl_iconst (np := 12) (v := 0) dX6_heat_11 rfl (rfl) ?_
    refine wl_bipush (np := 14) (v := 40) dX6_heat_12 rfl (by decide) ?_
    refine ciS_3 (np := 17) dX6_heat_14 rfl lk_X6_61 (Nat.le_of_ble_eq_true rfl) (by omega) (Nat.le_refl _) (Nat.le_refl _) (c_isWithin _ _ _) (fun x_14 m_14 h_14 => ?_)
    obtain ⟨rfl, q_14⟩ := h_14
    have q_14 := q_14.symm
    subst q_14
    refine wl_if_ne (np := 20) (tg := 22) dX6_heat_17 rfl rfl (fun c_17 => ?_) (fun c_17 => ?_)
    · have hgood : inR mo 0 11 ∧ inR v 0 40 := ⟨if1 c_7, if1 c_17⟩
      obtain ⟨j, hj, rfl⟩ := nI_of2 (x := mo) (M := 11) (n := 11) rfl (Int32.not_lt.mpr hgood.1.1) hgood.1.2
      unfold sp_heat
      rw [cif_t hgood, nI_clamp (by omega)]
      refine ld_a0 (np := 23) dX6_heat_22 rfl ?_
      refine wl_getr (np := 26) dX6_heat_23 rfl fl_X6_10 rfl (by assumption) (by assumption) ?_
      refine wl_getr (np := 29) dX6_heat_26 rfl fl_X6_133 rfl (by assumption) (by assumption) ?_
      refine ld_i1 (np := 30) dX6_heat_29 rfl ?_
      refine wl_iaload (np := 31) dX6_heat_30 rfl (inA_n s2 (by omega) (by decide)) ?_
      refine st_i3 (np := 32) dX6_heat_31 rfl (by decide) rfl ?_
      refine ld_a0 (np := 33) dX6_heat_32 rfl ?_
      refine wl_getr (np := 36) dX6_heat_33 rfl fl_X6_10 rfl (by assumption) (by assumption) ?_
      refine wl_getr (np := 39) dX6_heat_36 rfl fl_X6_133 rfl (by assumption) (by assumption) ?_
      refine ld_i1 (np := 40) dX6_heat_39 rfl ?_
      refine ld_i2 (np := 41) dX6_heat_40 rfl ?_
      refine wl_iastore (np := 42) dX6_heat_41 rfl (inA_n s2 (by omega) (by decide)) ?_
      refine ld_i3 (np := 43) dX6_heat_42 rfl ?_
      refine wi_ret dX6_heat_43 rfl (rfl) (Nat.le_refl _) (Nat.le_refl _) ?_
      rw [nI_clamp (by omega)]
      obtain ⟨e1, e2, e3, e4, e5, e6, e7, e8, e9, e10, e11⟩ := hR.1
      refine ⟨e3 j (by omega), GoodC.w hFs hR (RfK.of rfl) (fun a h1 h2 => gI_uI_ne (by omega)) ?_⟩
      have ne : ∀ x y, x ≠ 1 + 2 → gI (uI me (1 + 2) j v) x y = gI me x y := fun x y hx => congrFun (gI_uI_ne hx) y
      refine ⟨⟨e1.1, fun p P hp => (e1.2 p P hp).fr (fun a ha hb => gI_uI_ne (by omega))⟩, (ne _ _ (by omega)).trans e2, fun i hi => ?_, (ne _ _ (by omega)).trans e4, (ne _ _ (by omega)).trans e5, (ne _ _ (by omega)).trans e6, (ne _ _ (by omega)).trans e7, e8, (ne _ _ (by omega)).trans e9, e10, fun k a hk => ⟨(ne _ _ (by omega)).trans (e11 k a hk).1, (ne _ _ (by omega)).trans (e11 k a hk).2⟩⟩
      rw [gI_uI]
      dsimp only
      by_cases hij : i = j
      · rw [if_pos ⟨rfl, hij⟩, if_pos hij]
      · rw [if_neg (fun q => hij q.2), if_neg hij]; exact e3 i hi
    · exact bad (fun h => if0 c_17 h.2) _
set_option maxHeartbeats 4000000 in
set_option maxRecDepth 100000 in
theorem c_dc_rule (w v : Int32) (hF : FixC sh me) (hR : RepC me S) (hd : 2 ≤ d) : CI d mX6_rule sh [.ref 0, .int w, .int v] me (fun x m => x = (sp_rule S w v).1 ∧ GoodC sh me m (sp_rule S w v).2) := by
  have hFs := hF
  obtain ⟨z0, ⟨g0, g1, g2, g3, g4, g5, g6, g7⟩, ⟨w1, w2, w3, pp1, l1, b1, t1⟩, zs, zss⟩ := hF
  have hw1 := w1
  obtain ⟨s0, s1, s2, s3, s4, r0, r1, r2, r3, hP⟩ := w1
  have hn5 := hR.1.1.1
  have hn := hR.1.2.1
  obtain ⟨e1, e2, e3, e4, e5, e6, e7, e8, e9, e10, e11⟩ := id hR.1
  refine CI.mk (L := [.ref 0, .int w, .int v, .float 0]) (by decide) (Nat.le_of_ble_eq_true rfl) rfl ?_
  have bad : ¬ (w = 0 ∧ inR v 0 2) → ¬ (w = 1 ∧ inR v 0 9) → ∀ L4, Wa mX6_rule (0, fun _ => 0) d 0 0 sh.length (PI sh (fun x m => x = (sp_rule S w v).1 ∧ GoodC sh me m (sp_rule S w v).2)) 64 L4 [] sh me 0 0 := by
    intro hb hb2 L4
    unfold sp_rule
    rw [cif_f hb, cif_f hb2]
    refine wl_iconst (np := 65) (v := -1) dX6_rule_64 rfl (rfl) ?_
    refine wi_ret dX6_rule_65 rfl (rfl) (Nat.le_refl _) (Nat.le_refl _) ?_
    exact ⟨rfl, GoodC.same hFs hR⟩
  have k31 : ¬ (w = 0 ∧ inR v 0 2) → Wa mX6_rule (0, fun _ => 0) d 0 0 sh.length (PI sh (fun x m => x = (sp_rule S w v).1 ∧ GoodC sh me m (sp_rule S w v).2)) 31 [.ref 0, .int w, .int v, .float 0] [] sh me 0 0 := by
    intro hb
    refine ld_i1 (np := 32) dX6_rule_31 rfl ?_
    refine wl_iconst (np := 33) (v := 1) dX6_rule_32 rfl (rfl) ?_
    refine wl_icmp_ne (np := 36) (tg := 64) dX6_rule_33 rfl rfl (fun c_33 => ?_) (fun c_33 => ?_)
    · exact bad hb (fun h => c_33 h.1) _
    · refine ld_i2 (np := 37) dX6_rule_36 rfl ?_
      refine wl_iconst (np := 38) (v := 0) dX6_rule_37 rfl (rfl) ?_
      refine wl_bipush (np := 40) (v := 9) dX6_rule_38 rfl (by decide) ?_
      refine ciS_3 (np := 43) dX6_rule_40 rfl lk_X6_61 (Nat.le_of_ble_eq_true rfl) (by omega) (Nat.le_refl _) (Nat.le_refl _) (c_isWithin _ _ _) (fun x_40 m_40 h_40 => ?_)
      obtain ⟨rfl, q_40⟩ := h_40
      have q_40 := q_40.symm
      subst q_40
      refine wl_if_eq (np := 46) (tg := 64) dX6_rule_43 rfl rfl (fun c_43 => ?_) (fun c_43 => ?_)
      · exact bad hb (fun h => if0 c_43 h.2) _
      · unfold sp_rule
        rw [cif_f hb, cif_t ⟨c_33, if1 c_43⟩]
        refine ld_a0 (np := 47) dX6_rule_46 rfl ?_
        refine wl_getr (np := 50) dX6_rule_47 rfl fl_X6_10 rfl (by assumption) (by assumption) ?_
        refine wl_geti (np := 53) dX6_rule_50 rfl fl_X6_139 (by decide) (by assumption) ?_
        refine st_i3 (np := 54) dX6_rule_53 rfl (by decide) rfl ?_
        refine ld_a0 (np := 55) dX6_rule_54 rfl ?_
        refine wl_getr (np := 58) dX6_rule_55 rfl fl_X6_10 rfl (by assumption) (by assumption) ?_
        refine ld_i2 (np := 59) dX6_rule_58 rfl ?_
        refine wl_puti (np := 62) dX6_rule_59 rfl fl_X6_139 nf_5_8 rfl (by assumption) ?_
        refine ld_i3 (np := 63) dX6_rule_62 rfl ?_
        refine wi_ret dX6_rule_63 rfl (rfl) (Nat.le_refl _) (Nat.le_refl _) ?_
        refine ⟨e5, GoodC.w hFs hR (RfK.of rfl) (fun a h1 h2 => gI_uI_ne (by omega)) ?_⟩
        have ne : ∀ y, y ≠ 8 → gI (uI me 1 8 v) 1 y = gI me 1 y := fun y hy => gI_uI_nb hy
        have ne2 : ∀ x y, x ≠ 1 → gI (uI me 1 8 v) x y = gI me x y := fun x y hx => congrFun (gI_uI_ne hx) y
        exact ⟨⟨e1.1, fun p P hp => (e1.2 p P hp).fr (fun a ha hb => gI_uI_ne (by omega))⟩, (ne _ (by omega)).trans e2, fun i hi => (ne2 _ _ (by omega)).trans (e3 i hi), (ne _ (by omega)).trans e4, gI_uI_self _ _ _ _, (ne _ (by omega)).trans e6, (ne _ (by omega)).trans e7, e8, (ne _ (by omega)).trans e9, e10, fun k a hk => ⟨(ne2 _ _ (by omega)).trans (e11 k a hk).1, (ne2 _ _ (by omega)).trans (e11 k a hk).2⟩⟩
  refine ld_i1 (np := 1) dX6_rule_0 rfl ?_
  refine wl_if_ne (np := 4) (tg := 31) dX6_rule_1 rfl rfl (fun c_1 => ?_) (fun c_1 => ?_)
  · exact k31 (fun h => c_1 h.1)
  · refine ld_i2 (np := 5) dX6_rule_4 rfl ?_
    refine wl_iconst (np := 6) (v := 0) dX6_rule_5 rfl (rfl) ?_
    refine wl_iconst (np := 7) (v := 2) dX6_rule_6 rfl (rfl) ?_
    refine ciS_3 (np := 10) dX6_rule_7 rfl lk_X6_61 (Nat.le_of_ble_eq_true rfl) (by omega) (Nat.le_refl _) (Nat.le_refl _) (c_isWithin _ _ _) (fun x_7 m_7 h_7 => ?_)
    obtain ⟨rfl, q_7⟩ := h_7
    have q_7 := q_7.symm
    subst q_7
    refine wl_if_eq (np := 13) (tg := 31) dX6_rule_10 rfl rfl (fun c_10 => ?_) (fun c_10 => ?_)
    · exact k31 (fun h => if0 c_10 h.2)
    · unfold sp_rule
      rw [cif_t ⟨c_1, if1 c_10⟩]
      refine ld_a0 (np := 14) dX6_rule_13 rfl ?_
      refine wl_getr (np := 17) dX6_rule_14 rfl fl_X6_10 rfl (by assumption) (by assumption) ?_
      refine wl_geti (np := 20) dX6_rule_17 rfl fl_X6_136 (by decide) (by assumption) ?_
      refine st_i3 (np := 21) dX6_rule_20 rfl (by decide) rfl ?_
      refine ld_a0 (np := 22) dX6_rule_21 rfl ?_
      refine wl_getr (np := 25) dX6_rule_22 rfl fl_X6_10 rfl (by assumption) (by assumption) ?_
      refine ld_i2 (np := 26) dX6_rule_25 rfl ?_
      refine wl_puti (np := 29) dX6_rule_26 rfl fl_X6_136 nf_5_7 rfl (by assumption) ?_
      refine ld_i3 (np := 30) dX6_rule_29 rfl ?_
      refine wi_ret dX6_rule_30 rfl (rfl) (Nat.le_refl _) (Nat.le_refl _) ?_
      refine ⟨e4, GoodC.w hFs hR (RfK.of rfl) (fun a h1 h2 => gI_uI_ne (by omega)) ?_⟩
      have ne : ∀ y, y ≠ 7 → gI (uI me 1 7 v) 1 y = gI me 1 y := fun y hy => gI_uI_nb hy
      have ne2 : ∀ x y, x ≠ 1 → gI (uI me 1 7 v) x y = gI me x y := fun x y hx => congrFun (gI_uI_ne hx) y
      exact ⟨⟨e1.1, fun p P hp => (e1.2 p P hp).fr (fun a ha hb => gI_uI_ne (by omega))⟩, (ne _ (by omega)).trans e2, fun i hi => (ne2 _ _ (by omega)).trans (e3 i hi), gI_uI_self _ _ _ _, (ne _ (by omega)).trans e5, (ne _ (by omega)).trans e6, (ne _ (by omega)).trans e7, e8, (ne _ (by omega)).trans e9, e10, fun k a hk => ⟨(ne2 _ _ (by omega)).trans (e11 k a hk).1, (ne2 _ _ (by omega)).trans (e11 k a hk).2⟩⟩
/-- only the tape's cells have changed -/
theorem GoodC.t {m : Mem} {nt : Nat} {ft : Nat → Int32} (hF : FixC sh me) (hR : RepC me S) (hO : Onl me m 125 127) (h1 : gI m 125 1 = nI nt) (h2 : nt ≤ 80) (h3 : ∀ i, i < nt → gI m 126 i = ft i) : GoodC sh me m (S.1, S.2.1, (nt, ft), S.2.2.2) := by
  obtain ⟨e1, e2, e3, e6⟩ := hR
  refine ⟨⟨e1.fr (fun a ha hb => hO.2 a (by omega)), ?_, ⟨h1, h2, h3⟩, fun k hk4 => (e6 k hk4).fr (fun a ha hb => hO.2 a (by omega))⟩, hF.of (RfK.of hO.1), RfK.of hO.1, fun a ha => hO.2 a (by omega)⟩
  have e0 : gI m 0 8 = gI me 0 8 := hO.g (by omega)
  dsimp only
  cases hI : S.2.1 with
  | none => rw [hI] at e2; exact e0.trans e2
  | some V => rw [hI] at e2; exact ⟨e0.trans e2.1, e2.2.fr (fun a ha hb => hO.2 a (by omega))⟩
set_option maxHeartbeats 4000000 in
set_option maxRecDepth 100000 in
theorem c_dc_type (w : Int64) (n : Int32) (hF : FixC sh me) (hR : RepC me S) (hd : 3 ≤ d) : CI d mX6_type sh [.ref 0, .long w, .int n] me (fun x m => x = (sp_type S w n).1 ∧ GoodC sh me m (sp_type S w n).2) := by
  have hFs := hF
  obtain ⟨z0, ⟨g0, g1, g2, g3, g4, g5, g6, g7⟩, ⟨w1, w2, w3, pp1, l1, b1, t1⟩, zs, zss⟩ := hF
  have hw1 := w1
  obtain ⟨s0, s1, s2, s3, s4, r0, r1, r2, r3, hP⟩ := w1
  have hn5 := hR.1.1.1
  have hn := hR.1.2.1
  obtain ⟨f1, f2, f3⟩ := id hR.2.2.1
  have ht1 := t1
  obtain ⟨v0, v1, v2⟩ := t1
  refine CI.mk (L := [.ref 0, .long w, .float 0, .int n]) (by decide) (Nat.le_of_ble_eq_true rfl) rfl ?_
  have bad : ¬ (inR n 1 8 ∧ prnt w n.toNatClampNeg) → ∀ L4, Wa mX6_type (0, fun _ => 0) d 0 0 sh.length (PI sh (fun x m => x = (sp_type S w n).1 ∧ GoodC sh me m (sp_type S w n).2)) 18 L4 [] sh me 0 0 := by
    intro hb L4
    unfold sp_type
    rw [cif_f hb]
    refine wl_iconst (np := 19) (v := -1) dX6_type_18 rfl (rfl) ?_
    refine wi_ret dX6_type_19 rfl (rfl) (Nat.le_refl _) (Nat.le_refl _) ?_
    exact ⟨rfl, GoodC.same hFs hR⟩
  refine ld_i3 (np := 1) dX6_type_0 rfl ?_
  refine wl_iconst (np := 2) (v := 1) dX6_type_1 rfl (rfl) ?_
  refine wl_bipush (np := 4) (v := 8) dX6_type_2 rfl (by decide) ?_
  refine ciS_3 (np := 7) dX6_type_4 rfl lk_X6_61 (Nat.le_of_ble_eq_true rfl) (by omega) (Nat.le_refl _) (Nat.le_refl _) (c_isWithin _ _ _) (fun x_4 m_4 h_4 => ?_)
  obtain ⟨rfl, q_4⟩ := h_4
  have q_4 := q_4.symm
  subst q_4
  refine wl_if_eq (np := 10) (tg := 18) dX6_type_7 rfl rfl (fun c_7 => ?_) (fun c_7 => ?_)
  · exact bad (fun h => if0 c_7 h.1) _
  · have hin := if1 c_7
    obtain ⟨j, hj, rfl⟩ := nI_of2 (x := n) (M := 8) (n := 8) rfl (Int32.not_lt.mpr (Int32.le_trans (by decide) hin.1)) hin.2
    refine ld_l1 (np := 11) dX6_type_10 rfl ?_
    refine ld_i3 (np := 12) dX6_type_11 rfl ?_
    refine ciS_2 (np := 15) dX6_type_12 rfl lk_X6_142 (Nat.le_of_ble_eq_true rfl) (by omega) (Nat.le_refl _) (Nat.le_refl _) (c_isPrintable w hj (by omega)) (fun x_12 m_12 h_12 => ?_)
    obtain ⟨h12, q12⟩ := h_12
    have q12 := q12.symm
    subst q12
    refine wl_if_ne (np := 18) (tg := 20) dX6_type_15 rfl rfl (fun c_15 => ?_) (fun c_15 => ?_)
    · have hpr := or1 h12 c_15
      unfold sp_type
      rw [nI_clamp (by omega), cif_t ⟨hin, hpr⟩]
      refine ld_a0 (np := 21) dX6_type_20 rfl ?_
      refine wl_getr (np := 24) dX6_type_21 rfl fl_X6_46 rfl (by assumption) (by assumption) ?_
      refine wl_geti (np := 27) dX6_type_24 rfl fl_X6_146 (by decide) (by assumption) ?_
      refine ld_i3 (np := 28) dX6_type_27 rfl ?_
      refine wl_iadd (np := 29) dX6_type_28 rfl ?_
      refine wl_bipush (np := 31) (v := 80) dX6_type_29 rfl (by decide) ?_
      refine wl_icmp_le (np := 34) (tg := 37) dX6_type_31 rfl rfl (fun c_31 => ?_) (fun c_31 => ?_)
      · rw [f1, nI_add, show (80 : Int32) = nI 80 from rfl, nI_leI (by omega) (by decide)] at c_31
        rw [if_neg (by omega)]
        refine ld_a0 (np := 38) dX6_type_37 rfl ?_
        refine wl_getr (np := 41) dX6_type_38 rfl fl_X6_46 rfl (by assumption) (by assumption) ?_
        refine ld_l1 (np := 42) dX6_type_41 rfl ?_
        refine ld_i3 (np := 43) dX6_type_42 rfl ?_
        refine cvV_2 (np := 46) dX6_type_43 rfl lk_X6_149 (by assumption) (Nat.le_of_ble_eq_true rfl) (by omega) (Nat.le_refl _) (Nat.le_refl _) (c_append w ht1 f1 c_31) (fun m_43 h_43 => ?_)
        have q_43 := h_43.symm
        subst q_43
        refine ld_a0 (np := 47) dX6_type_46 rfl ?_
        refine wl_getr (np := 50) dX6_type_47 rfl fl_X6_46 rfl (by assumption) (by assumption) ?_
        refine wl_geti (np := 53) dX6_type_50 rfl fl_X6_146 (by decide) (by assumption) ?_
        refine wi_ret dX6_type_53 rfl (rfl) (Nat.le_refl _) (Nat.le_refl _) ?_
        have hO : Onl me (apM me 125 S.2.2.1.1 w j j) 125 127 := by
          refine ⟨rfl, fun a ha => funext fun b => ?_⟩
          simp only [apM]
          rw [if_neg (by omega), if_neg (by omega)]
        have e1 : gI (apM me 125 S.2.2.1.1 w j j) 125 1 = nI (S.2.2.1.1 + j) := by
          simp [apM, g_def]
        refine ⟨e1, GoodC.t hFs hR hO e1 c_31 (fun i hi => ?_)⟩
        simp only [apM, g_def]
        by_cases hlt : i < S.2.2.1.1
        · rw [if_neg (by omega), if_neg (by omega), if_pos hlt]; exact f3 i hlt
        · rw [if_pos (by refine ⟨?_, ?_, ?_⟩ <;> first | trivial | omega), if_neg hlt]
      · rw [f1, nI_add, show (80 : Int32) = nI 80 from rfl, nI_leI (by omega) (by decide)] at c_31
        rw [if_pos (by omega)]
        refine wl_bipush (np := 36) (v := -3) dX6_type_34 rfl (by decide) ?_
        refine wi_ret dX6_type_36 rfl (rfl) (Nat.le_refl _) (Nat.le_refl _) ?_
        exact ⟨rfl, GoodC.same hFs hR⟩
    · refine bad (fun h => or0 h12 c_15 ?_) _
      have := h.2
      rw [nI_clamp (by omega)] at this
      exact this
set_option maxHeartbeats 4000000 in
set_option maxRecDepth 100000 in
theorem c_dc_count (w : Int32) (hF : FixC sh me) (hR : RepC me S) (hd : 2 ≤ d) : CI d mX6_count sh [.ref 0, .int w] me (fun x m => x = (sp_count S w).1 ∧ GoodC sh me m (sp_count S w).2) := by
  have hFs := hF
  obtain ⟨z0, ⟨g0, g1, g2, g3, g4, g5, g6, g7⟩, ⟨w1, w2, w3, pp1, l1, b1, t1⟩, zs, zss⟩ := hF
  have hw1 := w1
  obtain ⟨s0, s1, s2, s3, s4, r0, r1, r2, r3, hP⟩ := w1
  have hn5 := hR.1.1.1
  have hn := hR.1.2.1
  obtain ⟨e1, e2, e3, e4, e5, e6, e7, e8, e9, e10, e11⟩ := id hR.1
  refine CI.mk (L := [.ref 0, .int w]) (by decide) (Nat.le_of_ble_eq_true rfl) rfl ?_
  have hfe : fellF (fun p => gI me (1 + 5 + 6 * p) 9) S.1.1.length = fellS S.1.1 := by
    unfold fellS
    have key : ∀ k, k ≤ S.1.1.length → fellF (fun p => gI me (1 + 5 + 6 * p) 9) k = fellF (fun p => ((S.1.1[p]?).getD ((0, 0, 0, 0), [], fun _ => 0)).1.2.2.2) k := by
      intro k
      induction k with
      | zero => intro _; rfl
      | succ k ih =>
        intro hk
        have hk2 : S.1.1[k]? = some S.1.1[k] := List.getElem?_eq_getElem (by omega)
        unfold fellF
        rw [ih (by omega), (e1.2 k _ hk2).2.2.2.1, hk2]
        rfl
    exact key _ (Nat.le_refl _)
  refine ld_i1 (np := 1) dX6_count_0 rfl ?_
  rcases sw_cases (x := w) 5 (by decide) with hout | ⟨j, hj, rfl⟩
  · refine wl_tswO (tg := 88) dX6_count_1 hout rfl ?_
    have hne := sw_ne (by decide) hout
    refine wl_iconst (np := 89) (v := -1) dX6_count_88 rfl (rfl) ?_
    refine wi_ret dX6_count_89 rfl (rfl) (Nat.le_refl _) (Nat.le_refl _) ?_
    refine ⟨?_, GoodC.same hFs hR⟩
    unfold sp_count cntS
    rw [if_neg (show ¬ w = 0 from hne 0 (by omega)), if_neg (show ¬ w = 1 from hne 1 (by omega)), if_neg (show ¬ w = 2 from hne 2 (by omega)), if_neg (show ¬ w = 3 from hne 3 (by omega)), if_neg (show ¬ w = 4 from hne 4 (by omega)), if_neg (show ¬ w = 5 from hne 5 (by omega))]
  · match j, hj with
    | 0, _ =>
      refine wl_tswI (tg := 40) (off := 39) dX6_count_1 (by decide) (by decide) (by decide) rfl ?_
      refine ld_a0 (np := 41) dX6_count_40 rfl ?_
      refine wl_getr (np := 44) dX6_count_41 rfl fl_X6_10 rfl (by assumption) (by assumption) ?_
      refine wl_geti (np := 47) dX6_count_44 rfl fl_X6_65 (by decide) (by assumption) ?_
      refine wi_ret dX6_count_47 rfl (rfl) (Nat.le_refl _) (Nat.le_refl _) ?_
      exact ⟨e2, GoodC.same hFs hR⟩
    | 1, _ =>
      refine wl_tswI (tg := 48) (off := 47) dX6_count_1 (by decide) (by decide) (by decide) rfl ?_
      refine ld_a0 (np := 49) dX6_count_48 rfl ?_
      refine wl_getr (np := 52) dX6_count_49 rfl fl_X6_10 rfl (by assumption) (by assumption) ?_
      refine wl_geti (np := 55) dX6_count_52 rfl fl_X6_161 (by decide) (by assumption) ?_
      refine wi_ret dX6_count_55 rfl (rfl) (Nat.le_refl _) (Nat.le_refl _) ?_
      exact ⟨e7, GoodC.same hFs hR⟩
    | 2, _ =>
      refine wl_tswI (tg := 56) (off := 55) dX6_count_1 (by decide) (by decide) (by decide) rfl ?_
      refine ld_a0 (np := 57) dX6_count_56 rfl ?_
      refine wl_getr (np := 60) dX6_count_57 rfl fl_X6_10 rfl (by assumption) (by assumption) ?_
      refine ciV_0 (np := 63) dX6_count_60 rfl lk_X6_164 (by assumption) (Nat.le_of_ble_eq_true rfl) (by omega) (Nat.le_refl _) (Nat.le_refl _) (c_coatsOfAll hw1 hR.1) (fun x_60 m_60 h_60 => ?_)
      obtain ⟨rfl, q_60⟩ := h_60
      have q_60 := q_60.symm
      subst q_60
      refine wi_ret dX6_count_63 rfl (rfl) (Nat.le_refl _) (Nat.le_refl _) ?_
      exact ⟨rfl, GoodC.same hFs hR⟩
    | 3, _ =>
      refine wl_tswI (tg := 64) (off := 63) dX6_count_1 (by decide) (by decide) (by decide) rfl ?_
      refine ld_a0 (np := 65) dX6_count_64 rfl ?_
      refine wl_getr (np := 68) dX6_count_65 rfl fl_X6_10 rfl (by assumption) (by assumption) ?_
      refine ciV_0 (np := 71) dX6_count_68 rfl lk_X6_167 (by assumption) (Nat.le_of_ble_eq_true rfl) (by omega) (Nat.le_refl _) (Nat.le_refl _) (c_fallenOnes hw1 hR.1) (fun x_68 m_68 h_68 => ?_)
      obtain ⟨rfl, q_68⟩ := h_68
      have q_68 := q_68.symm
      subst q_68
      refine wi_ret dX6_count_71 rfl (rfl) (Nat.le_refl _) (Nat.le_refl _) ?_
      exact ⟨hfe, GoodC.same hFs hR⟩
    | 4, _ =>
      refine wl_tswI (tg := 72) (off := 71) dX6_count_1 (by decide) (by decide) (by decide) rfl ?_
      refine ld_a0 (np := 73) dX6_count_72 rfl ?_
      refine wl_getr (np := 76) dX6_count_73 rfl fl_X6_10 rfl (by assumption) (by assumption) ?_
      refine wl_geti (np := 79) dX6_count_76 rfl fl_X6_170 (by decide) (by assumption) ?_
      refine wi_ret dX6_count_79 rfl (rfl) (Nat.le_refl _) (Nat.le_refl _) ?_
      exact ⟨e6, GoodC.same hFs hR⟩
    | 5, _ =>
      refine wl_tswI (tg := 80) (off := 79) dX6_count_1 (by decide) (by decide) (by decide) rfl ?_
      refine ld_a0 (np := 81) dX6_count_80 rfl ?_
      refine wl_getr (np := 84) dX6_count_81 rfl fl_X6_10 rfl (by assumption) (by assumption) ?_
      refine wl_geti (np := 87) dX6_count_84 rfl fl_X6_173 (by decide) (by assumption) ?_
      refine wi_ret dX6_count_87 rfl (rfl) (Nat.le_refl _) (Nat.le_refl _) ?_
      exact ⟨e9, GoodC.same hFs hR⟩
end DC2
