section M1
variable {sh : List Shp} {me : Mem} {d : Nat} {S : St}
set_option maxHeartbeats 4000000 in
set_option maxRecDepth 100000 in
theorem c_M_thickOf {A p : Nat} {P : Prs} (z0 : sh[136]? = some (.inl 7)) (gs : gR me 136 3 = some A) (xA : sh[A]? = some (.inr (0, 200))) (hq : RepQ (gI me A) p P) (hp : p < 5) : CI d mX7_thickOf sh [.ref 136, .int (nI p)] me (fun x m => x = thickOf P ∧ m = me) := by
  obtain ⟨h1, h2, h3, h4, h5, h6, h7, h8⟩ := hq
  have hsum : sumF (fun c => gI me A (40 * p + 8 + 4 * c + 3)) P.2.1.length = thickOf P := sumF_eq _ _ _ (fun c co hc => (h8 c co hc).2.2.2)
  have key : ∀ fuel i, P.2.1.length - i < fuel → i ≤ P.2.1.length → Wa mX7_thickOf (0, fun _ => 0) d 0 0 sh.length (PI sh (fun x m => x = thickOf P ∧ m = me)) 4 [.ref 136, .int (nI p), .int (sumF (fun c => gI me A (40 * p + 8 + 4 * c + 3)) i), .int (nI i)] [] sh me 0 0 := by
    intro fuel
    induction fuel with
    | zero => intro i h; omega
    | succ fuel ih =>
      intro i hi hin
      refine ld_i3 (np := 5) dX7_thickOf_4 rfl ?_
      refine ld_a0 (np := 6) dX7_thickOf_5 rfl ?_
      refine wl_getr (np := 9) dX7_thickOf_6 rfl fl_X7_16 rfl (by assumption) (by assumption) ?_
      refine wl_bipush (np := 11) (v := nI 40) dX7_thickOf_9 rfl (by decide) ?_
      refine ld_i1 (np := 12) dX7_thickOf_11 rfl ?_
      refine wl_imul (np := 13) dX7_thickOf_12 rfl ?_
      refine wl_iconst (np := 14) (v := nI 3) dX7_thickOf_13 rfl (rfl) ?_
      refine wl_iadd (np := 15) dX7_thickOf_14 rfl ?_
      refine wl_ialoadN (np := 16) dX7_thickOf_15 rfl (by first | (simp only [nIm, nIa, ← nI_succ]; exact rfl) | exact rfl) (by assumption) (by omega) (by decide) ?_
      refine wl_icmp_ge (np := 19) (tg := 46) dX7_thickOf_16 rfl rfl (fun c_16 => ?_) (fun c_16 => ?_)
      · rw [h4, nI_le_iff (by omega) (by omega)] at c_16
        refine ld_i2 (np := 47) dX7_thickOf_46 rfl ?_
        refine wi_ret dX7_thickOf_47 rfl (rfl) (Nat.le_refl _) (Nat.le_refl _) ?_
        rw [show i = P.2.1.length by omega]
        exact ⟨hsum, rfl⟩
      · rw [h4, nI_le_iff (by omega) (by omega)] at c_16
        refine ld_i2 (np := 20) dX7_thickOf_19 rfl ?_
        refine ld_a0 (np := 21) dX7_thickOf_20 rfl ?_
        refine wl_getr (np := 24) dX7_thickOf_21 rfl fl_X7_16 rfl (by assumption) (by assumption) ?_
        refine wl_bipush (np := 26) (v := nI 40) dX7_thickOf_24 rfl (by decide) ?_
        refine ld_i1 (np := 27) dX7_thickOf_26 rfl ?_
        refine wl_imul (np := 28) dX7_thickOf_27 rfl ?_
        refine wl_bipush (np := 30) (v := nI 8) dX7_thickOf_28 rfl (by decide) ?_
        refine wl_iadd (np := 31) dX7_thickOf_30 rfl ?_
        refine wl_iconst (np := 32) (v := nI 4) dX7_thickOf_31 rfl (rfl) ?_
        refine ld_i3 (np := 33) dX7_thickOf_32 rfl ?_
        refine wl_imul (np := 34) dX7_thickOf_33 rfl ?_
        refine wl_iadd (np := 35) dX7_thickOf_34 rfl ?_
        refine wl_iconst (np := 36) (v := nI 3) dX7_thickOf_35 rfl (rfl) ?_
        refine wl_iadd (np := 37) dX7_thickOf_36 rfl ?_
        refine wl_ialoadN (np := 38) dX7_thickOf_37 rfl (by first | (simp only [nIm, nIa, ← nI_succ]; exact rfl) | exact rfl) (by assumption) (by omega) (by decide) ?_
        refine wl_iadd (np := 39) dX7_thickOf_38 rfl ?_
        refine st_i2 (np := 40) dX7_thickOf_39 rfl (by decide) rfl ?_
        refine inc_3 (np := 43) (v := _ + 1) dX7_thickOf_40 rfl rfl (by decide) rfl ?_
        refine wl_goto (tg := 4) dX7_thickOf_43 rfl ?_
        rw [← nI_succ]
        exact ih (i + 1) (by omega) (by omega)
  refine CI.mk (L := [.ref 136, .int (nI p), .float 0, .float 0]) (by decide) (Nat.le_of_ble_eq_true rfl) rfl ?_
  refine wl_iconst (np := 1) (v := 0) dX7_thickOf_0 rfl (rfl) ?_
  refine st_i2 (np := 2) dX7_thickOf_1 rfl (by decide) rfl ?_
  refine wl_iconst (np := 3) (v := 0) dX7_thickOf_2 rfl (rfl) ?_
  refine st_i3 (np := 4) dX7_thickOf_3 rfl (by decide) rfl ?_
  exact key (P.2.1.length + 1) 0 (by omega) (by omega)
set_option maxHeartbeats 4000000 in
set_option maxRecDepth 100000 in
theorem c_M_isCoat (p c : Int32) (hF : FixM sh me) (hR : RepM me S) (hd : 2 ≤ d) : CI d mX7_isCoat sh [.ref 136, .int p, .int c] me (fun x m => (x = 1 ∧ isCt S.1.1 p c ∨ x = 0 ∧ ¬ isCt S.1.1 p c) ∧ m = me) := by
  have hFs := hF
  obtain ⟨z0, ⟨x1, x2, x4, x5, x6, x10, x11, x12, x16, x17, x18, x21, x22, x24, x25, x26, x27⟩, ⟨g1, g2, g4, g5, g6, g10, g11, g12, g16, g17, g18, g21, g22, g24, g25, g26, g27⟩, gs⟩ := hF
  have hn := hR.1.2.2.1
  have hn5 := hR.1.1.1
  refine CI.mk (L := [.ref 136, .int p, .int c]) (by decide) (Nat.le_of_ble_eq_true rfl) rfl ?_
  refine ld_a0 (np := 1) dX7_isCoat_0 rfl ?_
  refine ld_i1 (np := 2) dX7_isCoat_1 rfl ?_
  refine ciV_1 (np := 5) dX7_isCoat_2 rfl lk_X7_80 (by assumption) (Nat.le_of_ble_eq_true rfl) (by omega) (Nat.le_refl _) (Nat.le_refl _) (c_M_isOne p z0 hn hn5 (by omega)) (fun x_2 m_2 h_2 => ?_)
  obtain ⟨h2, q2⟩ := h_2
  have q2 := q2.symm
  subst q2
  refine wl_if_eq (np := 8) (tg := 35) dX7_isCoat_5 rfl rfl (fun c_5 => ?_) (fun c_5 => ?_)
  · refine wl_iconst (np := 36) (v := 0) dX7_isCoat_35 rfl (rfl) ?_
    refine wi_ret dX7_isCoat_36 rfl (by decide) (Nat.le_refl _) (Nat.le_refl _) ?_
    refine ⟨Or.inr ⟨rfl, ?_⟩, rfl⟩
    rintro ⟨k, P, j, hPk, rfl, hj, rfl⟩
    exact or0 h2 c_5 ⟨k, (List.getElem?_eq_some_iff.mp hPk).1, rfl⟩
  · obtain ⟨k, hk, rfl⟩ := or1 h2 c_5
    obtain ⟨P, hPk⟩ : ∃ P, S.1.1[k]? = some P := ⟨_, List.getElem?_eq_getElem hk⟩
    have hq := hR.1.1.2 k P hPk
    have e := in_iff (n := P.2.1.length) (by have := hq.2.2.2.2.1; omega) c
    refine ld_i2 (np := 9) dX7_isCoat_8 rfl ?_
    refine wl_i2l (np := 10) dX7_isCoat_9 rfl ?_
    refine wl_lconst (np := 11) (v := 0) dX7_isCoat_10 rfl rfl ?_
    refine ld_a0 (np := 12) dX7_isCoat_11 rfl ?_
    refine wl_getr (np := 15) dX7_isCoat_12 rfl fl_X7_7 rfl (by assumption) (by assumption) ?_
    refine wl_bipush (np := 17) (v := nI 40) dX7_isCoat_15 rfl (by decide) ?_
    refine ld_i1 (np := 18) dX7_isCoat_17 rfl ?_
    refine wl_imul (np := 19) dX7_isCoat_18 rfl ?_
    refine wl_iconst (np := 20) (v := nI 3) dX7_isCoat_19 rfl (rfl) ?_
    refine wl_iadd (np := 21) dX7_isCoat_20 rfl ?_
    refine wl_ialoadN (np := 22) dX7_isCoat_21 rfl (by first | (simp only [nIm, nIa, ← nI_succ]; exact rfl) | exact rfl) (by assumption) (by omega) (by decide) ?_
    refine wl_iconst (np := 23) (v := 1) dX7_isCoat_22 rfl (rfl) ?_
    refine wl_isub (np := 24) dX7_isCoat_23 rfl ?_
    refine wl_i2l (np := 25) dX7_isCoat_24 rfl ?_
    refine ciS_3 (np := 28) dX7_isCoat_25 rfl lk_X7_68 (Nat.le_of_ble_eq_true rfl) (by omega) (Nat.le_refl _) (Nat.le_refl _) (c_in32 _ 0 _ (by decide) rfl) (fun x_25 m_25 h_25 => ?_)
    obtain ⟨rfl, q_25⟩ := h_25
    have q_25 := q_25.symm
    subst q_25
    refine wl_if_eq (np := 31) (tg := 35) dX7_isCoat_28 rfl rfl (fun c_28 => ?_) (fun c_28 => ?_)
    · rw [hq.2.2.2.1] at c_28
      refine wl_iconst (np := 36) (v := 0) dX7_isCoat_35 rfl (rfl) ?_
      refine wi_ret dX7_isCoat_36 rfl (by decide) (Nat.le_refl _) (Nat.le_refl _) ?_
      refine ⟨Or.inr ⟨rfl, ?_⟩, rfl⟩
      rintro ⟨k', P', j, hPk', hkk, hj, rfl⟩
      have hk' := (List.getElem?_eq_some_iff.mp hPk').1
      rw [nI_eq (by omega) (by omega)] at hkk
      subst hkk
      rw [hPk] at hPk'
      cases hPk'
      exact if0 c_28 (e.mpr ⟨j, hj, rfl⟩)
    · rw [hq.2.2.2.1] at c_28
      refine wl_iconst (np := 32) (v := 1) dX7_isCoat_31 rfl (rfl) ?_
      refine wl_goto (tg := 36) dX7_isCoat_32 rfl ?_
      refine wi_ret dX7_isCoat_36 rfl (by decide) (Nat.le_refl _) (Nat.le_refl _) ?_
      obtain ⟨j, hj, rfl⟩ := e.mp (if1 c_28)
      exact ⟨Or.inl ⟨rfl, k, P, j, hPk, rfl, hj, rfl⟩, rfl⟩
set_option maxHeartbeats 4000000 in
set_option maxRecDepth 100000 in
theorem c_M_coat (p c w : Int32) (hF : FixM sh me) (hR : RepM me S) (hd : 3 ≤ d) : CI d mX7_coat sh [.ref 136, .int p, .int c, .int w] me (fun x m => x = (sp_coat S p c w).1 ∧ GoodM sh me m (sp_coat S p c w).2) := by
  have hFs := hF
  obtain ⟨z0, ⟨x1, x2, x4, x5, x6, x10, x11, x12, x16, x17, x18, x21, x22, x24, x25, x26, x27⟩, ⟨g1, g2, g4, g5, g6, g10, g11, g12, g16, g17, g18, g21, g22, g24, g25, g26, g27⟩, gs⟩ := hF
  refine CI.mk (L := [.ref 136, .int p, .int c, .int w]) (by decide) (Nat.le_of_ble_eq_true rfl) rfl ?_
  refine ld_a0 (np := 1) dX7_coat_0 rfl ?_
  refine ld_i1 (np := 2) dX7_coat_1 rfl ?_
  refine ld_i2 (np := 3) dX7_coat_2 rfl ?_
  refine ciV_2 (np := 6) dX7_coat_3 rfl lk_X7_91 (by assumption) (Nat.le_of_ble_eq_true rfl) (by omega) (Nat.le_refl _) (Nat.le_refl _) (c_M_isCoat p c hFs hR (by omega)) (fun x_3 m_3 h_3 => ?_)
  obtain ⟨h3, q3⟩ := h_3
  have q3 := q3.symm
  subst q3
  refine wl_if_eq (np := 9) (tg := 42) dX7_coat_6 rfl rfl (fun c_6 => ?_) (fun c_6 => ?_)
  · unfold sp_coat
    rw [cif_f (or0 h3 c_6)]
    refine wl_iconst (np := 43) (v := -1) dX7_coat_42 rfl (rfl) ?_
    refine wi_ret dX7_coat_43 rfl (rfl) (Nat.le_refl _) (Nat.le_refl _) ?_
    exact ⟨rfl, GoodM.same hFs hR⟩
  · have hct := or1 h3 c_6
    obtain ⟨k, P, j, hPk, rfl, hj, rfl⟩ := or1 h3 c_6
    have hk := (List.getElem?_eq_some_iff.mp hPk).1
    have hn5 := hR.1.1.1
    have hq := hR.1.1.2 k P hPk
    have h8 := hq.2.2.2.2.1
    obtain ⟨co, hco⟩ : ∃ co, P.2.1[j]? = some co := ⟨_, List.getElem?_eq_getElem hj⟩
    obtain ⟨e1, e2, e3, e4⟩ := hq.2.2.2.2.2.2.2 j co hco
    have hsp : sp_coat S (nI k) (nI j) w = (coS co w, S) := by
      unfold sp_coat
      rw [cif_t hct, getP_nI hPk (by omega)]
      unfold getC
      rw [nI_clamp (by omega), hco]
      rfl
    rw [hsp]
    refine ld_i3 (np := 10) dX7_coat_9 rfl ?_
    refine wl_i2l (np := 11) dX7_coat_10 rfl ?_
    refine wl_lconst (np := 12) (v := 0) dX7_coat_11 rfl rfl ?_
    refine wl_ldc2 (np := 15) dX7_coat_12 rfl wk_X7_95 ?_
    refine ciS_3 (np := 18) dX7_coat_15 rfl lk_X7_68 (Nat.le_of_ble_eq_true rfl) (by omega) (Nat.le_refl _) (Nat.le_refl _) (c_in32 _ 0 3 (by decide) (by decide)) (fun x_15 m_15 h_15 => ?_)
    obtain ⟨rfl, q_15⟩ := h_15
    have q_15 := q_15.symm
    subst q_15
    refine wl_if_eq (np := 21) (tg := 42) dX7_coat_18 rfl rfl (fun c_18 => ?_) (fun c_18 => ?_)
    · refine wl_iconst (np := 43) (v := -1) dX7_coat_42 rfl (rfl) ?_
      refine wi_ret dX7_coat_43 rfl (rfl) (Nat.le_refl _) (Nat.le_refl _) ?_
      refine ⟨?_, GoodM.same hFs hR⟩
      have hne := if0 c_18
      unfold coS
      rw [if_neg (fun q => hne (by rw [q]; decide)), if_neg (fun q => hne (by rw [q]; decide)), if_neg (fun q => hne (by rw [q]; decide)), if_neg (fun q => hne (by rw [q]; decide))]
    · have hin := if1 c_18
      obtain ⟨i, hi, rfl⟩ := nI_of2 (x := w) (M := 3) (n := 3) rfl (Int32.not_lt.mpr hin.1) hin.2
      refine ld_a0 (np := 22) dX7_coat_21 rfl ?_
      refine wl_getr (np := 25) dX7_coat_22 rfl fl_X7_7 rfl (by assumption) (by assumption) ?_
      refine wl_bipush (np := 27) (v := nI 40) dX7_coat_25 rfl (by decide) ?_
      refine ld_i1 (np := 28) dX7_coat_27 rfl ?_
      refine wl_imul (np := 29) dX7_coat_28 rfl ?_
      refine wl_bipush (np := 31) (v := nI 8) dX7_coat_29 rfl (by decide) ?_
      refine wl_iadd (np := 32) dX7_coat_31 rfl ?_
      refine wl_iconst (np := 33) (v := nI 4) dX7_coat_32 rfl (rfl) ?_
      refine ld_i2 (np := 34) dX7_coat_33 rfl ?_
      refine wl_imul (np := 35) dX7_coat_34 rfl ?_
      refine wl_iadd (np := 36) dX7_coat_35 rfl ?_
      refine ld_i3 (np := 37) dX7_coat_36 rfl ?_
      refine wl_iadd (np := 38) dX7_coat_37 rfl ?_
      refine wl_ialoadN (np := 39) dX7_coat_38 rfl (by first | (simp only [nIm, nIa, ← nI_succ]; exact rfl) | exact rfl) (by assumption) (by omega) (by decide) ?_
      refine wl_goto (tg := 43) dX7_coat_39 rfl ?_
      refine wi_ret dX7_coat_43 rfl (rfl) (Nat.le_refl _) (Nat.le_refl _) ?_
      refine ⟨?_, GoodM.same hFs hR⟩
      match i, hi with
      | 0, _ => exact e1
      | 1, _ => exact e2
      | 2, _ => exact e3
      | 3, _ => exact e4
set_option maxHeartbeats 4000000 in
set_option maxRecDepth 100000 in
theorem c_M_heat (mo v : Int32) (hF : FixM sh me) (hR : RepM me S) (hd : 1 ≤ d) : CI d mX7_heat sh [.ref 136, .int mo, .int v] me (fun x m => x = (sp_heat S mo v).1 ∧ GoodM sh me m (sp_heat S mo v).2) := by
  have hFs := hF
  obtain ⟨z0, ⟨x1, x2, x4, x5, x6, x10, x11, x12, x16, x17, x18, x21, x22, x24, x25, x26, x27⟩, ⟨g1, g2, g4, g5, g6, g10, g11, g12, g16, g17, g18, g21, g22, g24, g25, g26, g27⟩, gs⟩ := hF
  refine CI.mk (L := [.ref 136, .int mo, .int v, .float 0]) (by decide) (Nat.le_of_ble_eq_true rfl) rfl ?_
  have bad : ¬ (inR mo 0 11 ∧ inR v 0 40) → ∀ L4, Wa mX7_heat (0, fun _ => 0) d 0 0 sh.length (PI sh (fun x m => x = (sp_heat S mo v).1 ∧ GoodM sh me m (sp_heat S mo v).2)) 24 L4 [] sh me 0 0 := by
    intro hb L4
    unfold sp_heat
    rw [cif_f hb]
    refine wl_iconst (np := 25) (v := -1) dX7_heat_24 rfl (rfl) ?_
    refine wi_ret dX7_heat_25 rfl (rfl) (Nat.le_refl _) (Nat.le_refl _) ?_
    exact ⟨rfl, GoodM.same hFs hR⟩
  refine ld_i1 (np := 1) dX7_heat_0 rfl ?_
  refine wl_i2l (np := 2) dX7_heat_1 rfl ?_
  refine wl_lconst (np := 3) (v := 0) dX7_heat_2 rfl rfl ?_
  refine wl_ldc2 (np := 6) dX7_heat_3 rfl wk_X7_102 ?_
  refine ciS_3 (np := 9) dX7_heat_6 rfl lk_X7_68 (Nat.le_of_ble_eq_true rfl) (by omega) (Nat.le_refl _) (Nat.le_refl _) (c_in32 _ 0 11 (by decide) (by decide)) (fun x_6 m_6 h_6 => ?_)
  obtain ⟨rfl, q_6⟩ := h_6
  have q_6 := q_6.symm
  subst q_6
  refine wl_if_eq (np := 12) (tg := 24) dX7_heat_9 rfl rfl (fun c_9 => ?_) (fun c_9 => ?_)
  · exact bad (fun h => if0 c_9 h.1) _
  · refine ld_i2 (np := 13) dX7_heat_12 rfl ?_
    refine wl_i2l (np := 14) dX7_heat_13 rfl ?_
    refine wl_lconst (np := 15) (v := 0) dX7_heat_14 rfl rfl ?_
    refine wl_ldc2 (np := 18) dX7_heat_15 rfl wk_X7_104 ?_
    refine ciS_3 (np := 21) dX7_heat_18 rfl lk_X7_68 (Nat.le_of_ble_eq_true rfl) (by omega) (Nat.le_refl _) (Nat.le_refl _) (c_in32 _ 0 40 (by decide) (by decide)) (fun x_18 m_18 h_18 => ?_)
    obtain ⟨rfl, q_18⟩ := h_18
    have q_18 := q_18.symm
    subst q_18
    refine wl_if_ne (np := 24) (tg := 26) dX7_heat_21 rfl rfl (fun c_21 => ?_) (fun c_21 => ?_)
    · have hgood : inR mo 0 11 ∧ inR v 0 40 := ⟨if1 c_9, if1 c_21⟩
      obtain ⟨k, hk, rfl⟩ := nI_of2 (x := mo) (M := 11) (n := 11) rfl (Int32.not_lt.mpr hgood.1.1) hgood.1.2
      unfold sp_heat
      rw [cif_t hgood, nI_clamp (by omega)]
      refine ld_a0 (np := 27) dX7_heat_26 rfl ?_
      refine wl_getr (np := 30) dX7_heat_27 rfl fl_X7_22 rfl (by assumption) (by assumption) ?_
      refine ld_i1 (np := 31) dX7_heat_30 rfl ?_
      refine wl_ialoadN (np := 32) dX7_heat_31 rfl (by first | (simp only [nIm, nIa, ← nI_succ]; exact rfl) | exact rfl) (by assumption) (by omega) (by decide) ?_
      refine st_i3 (np := 33) dX7_heat_32 rfl (by decide) rfl ?_
      refine ld_a0 (np := 34) dX7_heat_33 rfl ?_
      refine wl_getr (np := 37) dX7_heat_34 rfl fl_X7_22 rfl (by assumption) (by assumption) ?_
      refine ld_i1 (np := 38) dX7_heat_37 rfl ?_
      refine ld_i2 (np := 39) dX7_heat_38 rfl ?_
      refine wl_iastoreN (np := 40) dX7_heat_39 rfl (by first | (simp only [nIm, nIa, ← nI_succ]; exact rfl) | exact rfl) (by assumption) (by omega) (by decide) ?_
      refine ld_i3 (np := 41) dX7_heat_40 rfl ?_
      refine wi_ret dX7_heat_41 rfl (rfl) (Nat.le_refl _) (Nat.le_refl _) ?_
      obtain ⟨y1, y2, y3, y4⟩ := hR
      obtain ⟨v1, v2, v3, v4, v5, v6, v7, v8, v9, v10, v11, v12⟩ := y1
      refine ⟨v4 k (by omega), ⟨⟨v1, v2, v3, fun i hi => ?_, v5, v6, v7, v8, v9, v10, v11, v12⟩, y2, y3, y4⟩, hFs.of (RfM.of rfl), RfM.of rfl, fun a ha => gI_uI_ne (by omega)⟩
      rw [gI_uI]
      dsimp only
      by_cases hik : i = k
      · rw [if_pos ⟨rfl, hik⟩, if_pos hik]
      · rw [if_neg (fun q => hik q.2), if_neg hik]
        exact v4 i hi
    · exact bad (fun h => if0 c_21 h.2) _
end M1
