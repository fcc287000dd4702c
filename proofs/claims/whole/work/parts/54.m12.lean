section M12
variable {sh : List Shp} {me : Mem} {d kk : Nat} {S : St}
theorem ti64 {n : Nat} (h : n < 2 ^ 31) : (nI n).toInt64.toInt = (n : Int) := by rw [Int32.toInt_toInt64, nI_toInt h]
theorem add64 {a b L : Nat} (ha : a < 2 ^ 31) (hb : b < 2 ^ 31) (hL : L < 2 ^ 31) : ((nI a).toInt64 + (nI b).toInt64 ≤ (nI L).toInt64) ↔ a + b ≤ L := by
  rw [Int64.le_iff_toInt_le, Int64.toInt_add, ti64 ha, ti64 hb, ti64 hL]
  rw [Int.bmod_eq_of_le (by omega) (by omega)]
  omega
set_option maxHeartbeats 4000000 in
set_option maxRecDepth 100000 in
theorem c_M_finds {k nn : Nat} {T : Sht} (lane i : Int32) (z0 : sh[136]? = some (.inl 7)) (g24 : gR me 136 24 = some 150) (x24 : sh[150]? = some (.inr (0, 4))) (g25 : gR me 136 25 = some 151) (x25 : sh[151]? = some (.inr (0, 4))) (hk : k < 4) (hn : nn < 2 ^ 31) (hl : ¬ lane < 0) (hT : RepSM (gI me 150) (gI me 151) (gI me 152) k T) : CI d mX7_finds sh [.ref 136, .int (nI k), .int lane, .int i, .int (nI nn)] me (fun x m => x = refS T lane i (nI nn) ∧ m = me) := by
  refine CI.mk (L := [.ref 136, .int (nI k), .int lane, .int i, .int (nI nn)]) (by decide) (Nat.le_of_ble_eq_true rfl) rfl ?_
  match T, hT with
  | none, hT =>
    have h0 : gI me 150 k = -1 := hT
    refine ld_a0 (np := 1) dX7_finds_0 rfl ?_
    refine wl_getr (np := 4) dX7_finds_1 rfl fl_X7_52 rfl (by assumption) (by assumption) ?_
    refine ld_i1 (np := 5) dX7_finds_4 rfl ?_
    refine wl_ialoadN (np := 6) dX7_finds_5 rfl (by first | (simp only [nIm, nIa, ← nI_succ]; exact rfl) | exact nI_z | exact nI_o | exact rfl) (by assumption) (by omega) (by first | decide | omega) ?_
    refine wl_if_ge (np := 9) (tg := 12) dX7_finds_6 rfl rfl (fun c_6 => ?_) (fun c_6 => ?_)
    · rw [h0] at c_6
      exact absurd c_6 (by decide)
    · refine wl_bipush (np := 11) (v := -11) dX7_finds_9 rfl (by decide) ?_
      refine wi_ret dX7_finds_11 rfl (rfl) (Nat.le_refl _) (Nat.le_refl _) ?_
      exact ⟨rfl, rfl⟩
  | some (l, L, f), hT =>
    obtain ⟨h1, h2, h3, h4, h5⟩ := hT
    unfold refS
    dsimp only
    refine ld_a0 (np := 1) dX7_finds_0 rfl ?_
    refine wl_getr (np := 4) dX7_finds_1 rfl fl_X7_52 rfl (by assumption) (by assumption) ?_
    refine ld_i1 (np := 5) dX7_finds_4 rfl ?_
    refine wl_ialoadN (np := 6) dX7_finds_5 rfl (by first | (simp only [nIm, nIa, ← nI_succ]; exact rfl) | exact nI_z | exact nI_o | exact rfl) (by assumption) (by omega) (by first | decide | omega) ?_
    refine wl_if_ge (np := 9) (tg := 12) dX7_finds_6 rfl rfl (fun c_6 => ?_) (fun c_6 => ?_)
    · refine ld_a0 (np := 13) dX7_finds_12 rfl ?_
      refine wl_getr (np := 16) dX7_finds_13 rfl fl_X7_52 rfl (by assumption) (by assumption) ?_
      refine ld_i1 (np := 17) dX7_finds_16 rfl ?_
      refine wl_ialoadN (np := 18) dX7_finds_17 rfl (by first | (simp only [nIm, nIa, ← nI_succ]; exact rfl) | exact nI_z | exact nI_o | exact rfl) (by assumption) (by omega) (by first | decide | omega) ?_
      refine ld_i2 (np := 19) dX7_finds_18 rfl ?_
      refine wl_icmp_eq (np := 22) (tg := 25) dX7_finds_19 rfl rfl (fun c_19 => ?_) (fun c_19 => ?_)
      · rw [h1] at c_19
        rw [if_pos c_19]
        have neg : ¬ inS L i (nI nn) → ∀ L4, Wa mX7_finds (0, fun _ => 0) d 0 0 sh.length (PI sh (fun x m => x = cif (inS L i (nI nn)) 0 (-13) ∧ m = me)) 46 L4 [] sh me 0 0 := by
          intro hz L4
          rw [cif_f hz]
          refine wl_bipush (np := 48) (v := -13) dX7_finds_46 rfl (by decide) ?_
          refine wl_goto (tg := 52) dX7_finds_48 rfl ?_
          refine wi_ret dX7_finds_52 rfl (rfl) (Nat.le_refl _) (Nat.le_refl _) ?_
          exact ⟨rfl, rfl⟩
        refine ld_i3 (np := 26) dX7_finds_25 rfl ?_
        refine wl_if_lt (np := 29) (tg := 46) dX7_finds_26 rfl rfl (fun c_26 => ?_) (fun c_26 => ?_)
        · refine neg ?_ _
          rintro ⟨a, b, rfl, -, hab⟩
          exact absurd c_26 (Int32.not_lt.mpr (nI_pos' (by omega)))
        · obtain ⟨a, ha, rfl⟩ := nI_of c_26
          refine ld_i3 (np := 30) dX7_finds_29 rfl ?_
          refine wl_i2l (np := 31) dX7_finds_30 rfl ?_
          refine ld_i4 (np := 33) dX7_finds_31 rfl ?_
          refine wl_i2l (np := 34) dX7_finds_33 rfl ?_
          refine wl_ladd (np := 35) dX7_finds_34 rfl ?_
          refine ld_a0 (np := 36) dX7_finds_35 rfl ?_
          refine wl_getr (np := 39) dX7_finds_36 rfl fl_X7_55 rfl (by assumption) (by assumption) ?_
          refine ld_i1 (np := 40) dX7_finds_39 rfl ?_
          refine wl_ialoadN (np := 41) dX7_finds_40 rfl (by first | (simp only [nIm, nIa, ← nI_succ]; exact rfl) | exact nI_z | exact nI_o | exact rfl) (by assumption) (by omega) (by first | decide | omega) ?_
          refine wl_i2l (np := 42) dX7_finds_41 rfl ?_
          refine wl_lcmp (np := 43) dX7_finds_42 rfl ?_
          refine wl_if_le (np := 46) (tg := 51) dX7_finds_43 rfl rfl (fun c_43 => ?_) (fun c_43 => ?_)
          · rw [h3] at c_43
            have c43 := (lg_cmp_le _ _).mp c_43
            rw [add64 ha hn (by omega)] at c43
            rw [cif_t ⟨a, nn, rfl, rfl, c43⟩]
            refine wl_iconst (np := 52) (v := 0) dX7_finds_51 rfl (rfl) ?_
            refine wi_ret dX7_finds_52 rfl (rfl) (Nat.le_refl _) (Nat.le_refl _) ?_
            exact ⟨rfl, rfl⟩
          · rw [h3] at c_43
            have c43 : ¬ a + nn ≤ L := fun q => c_43 ((lg_cmp_le _ _).mpr ((add64 ha hn (by omega)).mpr q))
            refine neg ?_ _
            rintro ⟨a', b', e1, e2, hab⟩
            rw [nI_eq ha (by omega)] at e1
            rw [nI_eq hn (by omega)] at e2
            omega
      · rw [h1] at c_19
        rw [if_neg c_19]
        refine wl_bipush (np := 24) (v := -12) dX7_finds_22 rfl (by decide) ?_
        refine wi_ret dX7_finds_24 rfl (rfl) (Nat.le_refl _) (Nat.le_refl _) ?_
        exact ⟨rfl, rfl⟩
    · rw [h1] at c_6
      exact absurd (Int32.not_le.mp c_6) h2
theorem GoodM.s {m : Mem} {k : Nat} {T : Sht} (hF : FixM sh me) (hR : RepM me S) (hrf : m.2 = me.2) (hm : ∀ a, a ≠ 150 → a ≠ 151 → a ≠ 152 → a ≠ 153 → gI m a = gI me a) (h0 : ∀ j, j ≠ k → gI m 150 j = gI me 150 j) (h1 : ∀ j, j ≠ k → gI m 151 j = gI me 151 j) (h2 : ∀ i, ¬ (24 * k ≤ i ∧ i < 24 * k + 24) → gI m 152 i = gI me 152 i) (hT : RepSM (gI m 150) (gI m 151) (gI m 152) k T) : GoodM sh me m (setSh S k T) := by
  obtain ⟨y1, y2, ⟨y3, y4, y5⟩, y6⟩ := hR
  have e := fun a h0 h1 h2 h3 => hm a h0 h1 h2 h3
  refine ⟨⟨?_, ?_, ⟨?_, y4, fun i hi => ?_⟩, fun j hj => ?_⟩, hF.of (RfM.of hrf), RfM.of hrf, fun a ha => hm a (by omega) (by omega) (by omega) (by omega)⟩
  · unfold NowM at *
    rw [hm 136 (by omega) (by omega) (by omega) (by omega), hm 137 (by omega) (by omega) (by omega) (by omega), hm 139 (by omega) (by omega) (by omega) (by omega), hm 140 (by omega) (by omega) (by omega) (by omega), hm 141 (by omega) (by omega) (by omega) (by omega), hm 142 (by omega) (by omega) (by omega) (by omega), hm 143 (by omega) (by omega) (by omega) (by omega)]
    exact y1
  · unfold setSh
    dsimp only
    cases hI : S.2.1 with
    | none => rw [hI] at y2; unfold ImgM at *; rw [hm 136 (by omega) (by omega) (by omega) (by omega)]; exact y2
    | some V => rw [hI] at y2; unfold ImgM at *; rw [hm 136 (by omega) (by omega) (by omega) (by omega), hm 149 (by omega) (by omega) (by omega) (by omega)]; exact y2
  · rw [hm 136 (by omega) (by omega) (by omega) (by omega)]; exact y3
  · rw [hm 144 (by omega) (by omega) (by omega) (by omega)]; exact y5 i hi
  · unfold setSh
    dsimp only
    by_cases hjk : j = k
    · subst hjk
      rw [if_pos rfl]
      exact hT
    · rw [if_neg hjk]
      have hj6 := y6 j hj
      match hTj : S.2.2.2 j, hj6 with
      | none, hj6 => exact (h0 j hjk).trans hj6
      | some (l, L, f), hj6 =>
        obtain ⟨u1, u2, u3, u4, u5⟩ := hj6
        exact ⟨(h0 j hjk).trans u1, u2, (h1 j hjk).trans u3, u4, fun i hi => (h2 _ (by omega)).trans (u5 i hi)⟩
set_option maxHeartbeats 4000000 in
set_option maxRecDepth 100000 in
theorem c_M_sheet (s lane n : Int32) (hF : FixM sh me) (hR : RepM me S) (hd : 2 ≤ d) : CI d mX7_sheet sh [.ref 136, .int s, .int lane, .int n] me (fun x m => x = (sp_sheet S s lane n).1 ∧ GoodM sh me m (sp_sheet S s lane n).2) := by
  have hFs := hF
  obtain ⟨z0, ⟨x1, x2, x4, x5, x6, x10, x11, x12, x16, x17, x18, x21, x22, x24, x25, x26, x27⟩, ⟨g1, g2, g4, g5, g6, g10, g11, g12, g16, g17, g18, g21, g22, g24, g25, g26, g27⟩, gs⟩ := hF
  refine CI.mk (L := [.ref 136, .int s, .int lane, .int n, .float 0]) (by decide) (Nat.le_of_ble_eq_true rfl) rfl ?_
  have bad : ¬ (inR s 0 3 ∧ inR lane 0 2 ∧ n ≤ 24) → ∀ L4, Wa mX7_sheet (0, fun _ => 0) d 0 0 sh.length (PI sh (fun x m => x = (sp_sheet S s lane n).1 ∧ GoodM sh me m (sp_sheet S s lane n).2)) 20 L4 [] sh me 0 0 := by
    intro hb L4
    unfold sp_sheet
    rw [cif_f hb]
    refine wl_iconst (np := 21) (v := -1) dX7_sheet_20 rfl (rfl) ?_
    refine wi_ret dX7_sheet_21 rfl (rfl) (Nat.le_refl _) (Nat.le_refl _) ?_
    exact ⟨rfl, GoodM.same hFs hR⟩
  refine ld_i1 (np := 1) dX7_sheet_0 rfl ?_
  refine ciS_1 (np := 4) dX7_sheet_1 rfl lk_X7_228 (Nat.le_of_ble_eq_true rfl) (by omega) (Nat.le_refl _) (Nat.le_refl _) (c_M_isSheet _ (by omega)) (fun x_1 m_1 h_1 => ?_)
  obtain ⟨rfl, q_1⟩ := h_1
  have q_1 := q_1.symm
  subst q_1
  refine wl_if_eq (np := 7) (tg := 20) dX7_sheet_4 rfl rfl (fun c_4 => ?_) (fun c_4 => ?_)
  · exact bad (fun h => if0 c_4 h.1) _
  · refine ld_i2 (np := 8) dX7_sheet_7 rfl ?_
    refine ciS_1 (np := 11) dX7_sheet_8 rfl lk_X7_231 (Nat.le_of_ble_eq_true rfl) (by omega) (Nat.le_refl _) (Nat.le_refl _) (c_M_isLane _ (by omega)) (fun x_8 m_8 h_8 => ?_)
    obtain ⟨rfl, q_8⟩ := h_8
    have q_8 := q_8.symm
    subst q_8
    refine wl_if_eq (np := 14) (tg := 20) dX7_sheet_11 rfl rfl (fun c_11 => ?_) (fun c_11 => ?_)
    · exact bad (fun h => if0 c_11 h.2.1) _
    · refine ld_i3 (np := 15) dX7_sheet_14 rfl ?_
      refine wl_bipush (np := 17) (v := nI 24) dX7_sheet_15 rfl (by decide) ?_
      refine wl_icmp_le (np := 20) (tg := 22) dX7_sheet_17 rfl rfl (fun c_17 => ?_) (fun c_17 => ?_)
      · have hgood : inR s 0 3 ∧ inR lane 0 2 ∧ n ≤ 24 := ⟨if1 c_4, if1 c_11, c_17⟩
        obtain ⟨k, hk, rfl⟩ := nI_of2 (x := s) (M := 3) (n := 3) rfl (Int32.not_lt.mpr hgood.1.1) hgood.1.2
        unfold sp_sheet
        rw [cif_t hgood, nI_clamp (by omega)]
        refine ld_i3 (np := 23) dX7_sheet_22 rfl ?_
        refine wl_if_ge (np := 26) (tg := 29) dX7_sheet_23 rfl rfl (fun c_23 => ?_) (fun c_23 => ?_)
        · rw [if_neg (Int32.not_lt.mpr c_23)]
          obtain ⟨nn, hnn, rfl⟩ := nI_of2 (x := n) (M := 24) (n := 24) rfl (Int32.not_lt.mpr c_23) c_17
          rw [nI_clamp (by omega)]
          have key : ∀ fuel i, 24 - i < fuel → i ≤ 24 → Wa mX7_sheet (0, fun _ => 0) d 0 0 sh.length (PI sh (fun x m => x = (nI nn, setSh S k (some (lane, nn, fun _ => 0))).1 ∧ GoodM sh me m (nI nn, setSh S k (some (lane, nn, fun _ => 0))).2)) 46 [.ref 136, .int (nI k), .int lane, .int (nI nn), .int (nI i)] [] sh (uA (uI (uI me 150 k lane) 151 k (nI nn)) 152 (zrF (gI me 152) (24 * k) i)) 0 0 := by
            intro fuel
            induction fuel with
            | zero => intro i h; omega
            | succ fuel ih =>
              intro i hi hin
              refine ld_i4 (np := 48) dX7_sheet_46 rfl ?_
              refine wl_bipush (np := 50) (v := nI 24) dX7_sheet_48 rfl (by decide) ?_
              refine wl_icmp_ge (np := 53) (tg := 72) dX7_sheet_50 rfl rfl (fun c_50 => ?_) (fun c_50 => ?_)
              · rw [nI_le_iff (by omega) (by omega)] at c_50
                have hie : i = 24 := by omega
                subst hie
                refine ld_i3 (np := 73) dX7_sheet_72 rfl ?_
                refine wi_ret dX7_sheet_73 rfl (rfl) (Nat.le_refl _) (Nat.le_refl _) ?_
                refine ⟨rfl, GoodM.s hFs hR rfl (fun a h0 h1 h2 h3 => ?_) (fun j hj => ?_) (fun j hj => ?_) (fun i hi => ?_) ⟨?_, Int32.not_lt.mpr hgood.2.1.1, ?_, hnn, fun i hi => ?_⟩⟩
                · exact (gI_uAn h2).trans ((gI_uI_ne h1).trans (gI_uI_ne h0))
                · exact (congrFun (gI_uAn (by omega)) j).trans ((congrFun (gI_uI_ne (by omega)) j).trans (gI_uI_nb hj))
                · exact (congrFun (gI_uAn (by omega)) j).trans ((gI_uI_nb hj).trans (congrFun (gI_uI_ne (by omega)) j))
                · rw [gI_uAs]; unfold zrF; rw [if_neg hi]
                · exact (congrFun (gI_uAn (by omega)) k).trans ((congrFun (gI_uI_ne (by omega)) k).trans (gI_uI_self _ _ _ _))
                · exact (congrFun (gI_uAn (by omega)) k).trans (gI_uI_self _ _ _ _)
                · rw [gI_uAs]; unfold zrF; rw [if_pos (by omega)]
              · rw [nI_le_iff (by omega) (by omega)] at c_50
                refine ld_a0 (np := 54) dX7_sheet_53 rfl ?_
                refine wl_getr (np := 57) dX7_sheet_54 rfl fl_X7_58 rfl (by assumption) (by assumption) ?_
                refine wl_bipush (np := 59) (v := nI 24) dX7_sheet_57 rfl (by decide) ?_
                refine ld_i1 (np := 60) dX7_sheet_59 rfl ?_
                refine wl_imul (np := 61) dX7_sheet_60 rfl ?_
                refine ld_i4 (np := 63) dX7_sheet_61 rfl ?_
                refine wl_iadd (np := 64) dX7_sheet_63 rfl ?_
                refine wl_iconst (np := 65) (v := 0) dX7_sheet_64 rfl (rfl) ?_
                refine wl_iastoreN (np := 66) dX7_sheet_65 rfl (by first | (simp only [nIm, nIa, ← nI_succ]; exact rfl) | exact nI_z | exact nI_o | exact rfl) (by assumption) (by omega) (by first | decide | omega) ?_
                refine inc_4 (np := 69) (v := _ + 1) dX7_sheet_66 rfl rfl (by decide) rfl ?_
                refine wl_goto (tg := 46) dX7_sheet_69 rfl ?_
                rw [uI_uA, zrF_succ, ← nI_succ]
                exact ih (i + 1) (by omega) (by omega)
          refine ld_a0 (np := 30) dX7_sheet_29 rfl ?_
          refine wl_getr (np := 33) dX7_sheet_30 rfl fl_X7_52 rfl (by assumption) (by assumption) ?_
          refine ld_i1 (np := 34) dX7_sheet_33 rfl ?_
          refine ld_i2 (np := 35) dX7_sheet_34 rfl ?_
          refine wl_iastoreN (np := 36) dX7_sheet_35 rfl (by first | (simp only [nIm, nIa, ← nI_succ]; exact rfl) | exact nI_z | exact nI_o | exact rfl) (by assumption) (by omega) (by first | decide | omega) ?_
          refine ld_a0 (np := 37) dX7_sheet_36 rfl ?_
          refine wl_getr (np := 40) dX7_sheet_37 rfl fl_X7_55 rfl (by assumption) (by assumption) ?_
          refine ld_i1 (np := 41) dX7_sheet_40 rfl ?_
          refine ld_i3 (np := 42) dX7_sheet_41 rfl ?_
          refine wl_iastoreN (np := 43) dX7_sheet_42 rfl (by first | (simp only [nIm, nIa, ← nI_succ]; exact rfl) | exact nI_z | exact nI_o | exact rfl) (by assumption) (by omega) (by first | decide | omega) ?_
          refine wl_iconst (np := 44) (v := 0) dX7_sheet_43 rfl (rfl) ?_
          refine st_i4 (np := 46) dX7_sheet_44 rfl (by decide) rfl ?_
          have h0 := key 25 0 (by omega) (by omega)
          have e9 : gI me 152 = gI (uI (uI me 150 k lane) 151 k (nI nn)) 152 := rfl
          rw [zrF_0, e9, uA_id] at h0
          exact h0
        · rw [if_pos (Int32.not_le.mp c_23)]
          refine wl_bipush (np := 28) (v := -14) dX7_sheet_26 rfl (by decide) ?_
          refine wi_ret dX7_sheet_28 rfl (rfl) (Nat.le_refl _) (Nat.le_refl _) ?_
          exact ⟨rfl, GoodM.same hFs hR⟩
      · exact bad (fun h => c_17 h.2.2) _
set_option maxHeartbeats 4000000 in
set_option maxRecDepth 100000 in
theorem c_M_drop (s : Int32) (hF : FixM sh me) (hR : RepM me S) (hd : 2 ≤ d) : CI d mX7_drop sh [.ref 136, .int s] me (fun x m => x = (sp_drop S s).1 ∧ GoodM sh me m (sp_drop S s).2) := by
  have hFs := hF
  obtain ⟨z0, ⟨x1, x2, x4, x5, x6, x10, x11, x12, x16, x17, x18, x21, x22, x24, x25, x26, x27⟩, ⟨g1, g2, g4, g5, g6, g10, g11, g12, g16, g17, g18, g21, g22, g24, g25, g26, g27⟩, gs⟩ := hF
  refine CI.mk (L := [.ref 136, .int s]) (by decide) (Nat.le_of_ble_eq_true rfl) rfl ?_
  refine ld_i1 (np := 1) dX7_drop_0 rfl ?_
  refine ciS_1 (np := 4) dX7_drop_1 rfl lk_X7_228 (Nat.le_of_ble_eq_true rfl) (by omega) (Nat.le_refl _) (Nat.le_refl _) (c_M_isSheet _ (by omega)) (fun x_1 m_1 h_1 => ?_)
  obtain ⟨rfl, q_1⟩ := h_1
  have q_1 := q_1.symm
  subst q_1
  refine wl_if_ne (np := 7) (tg := 9) dX7_drop_4 rfl rfl (fun c_4 => ?_) (fun c_4 => ?_)
  · have hgood := if1 c_4
    obtain ⟨k, hk, rfl⟩ := nI_of2 (x := s) (M := 3) (n := 3) rfl (Int32.not_lt.mpr hgood.1) hgood.2
    have hrS := hR.2.2.2 k (by omega)
    unfold sp_drop
    rw [cif_t hgood, nI_clamp (by omega)]
    refine ld_a0 (np := 10) dX7_drop_9 rfl ?_
    refine wl_getr (np := 13) dX7_drop_10 rfl fl_X7_52 rfl (by assumption) (by assumption) ?_
    refine ld_i1 (np := 14) dX7_drop_13 rfl ?_
    refine wl_ialoadN (np := 15) dX7_drop_14 rfl (by first | (simp only [nIm, nIa, ← nI_succ]; exact rfl) | exact nI_z | exact nI_o | exact rfl) (by assumption) (by omega) (by first | decide | omega) ?_
    refine wl_if_ge (np := 18) (tg := 21) dX7_drop_15 rfl rfl (fun c_15 => ?_) (fun c_15 => ?_)
    · match hT : S.2.2.2 k, hrS with
      | none, hrS =>
        have h0 : gI me 150 k = -1 := hrS
        rw [h0] at c_15
        exact absurd c_15 (by decide)
      | some (l, L, f), hrS =>
        obtain ⟨e1, e2, e3, e4, e5⟩ := hrS
        refine ld_a0 (np := 22) dX7_drop_21 rfl ?_
        refine wl_getr (np := 25) dX7_drop_22 rfl fl_X7_52 rfl (by assumption) (by assumption) ?_
        refine ld_i1 (np := 26) dX7_drop_25 rfl ?_
        refine wl_iconst (np := 27) (v := -1) dX7_drop_26 rfl (rfl) ?_
        refine wl_iastoreN (np := 28) dX7_drop_27 rfl (by first | (simp only [nIm, nIa, ← nI_succ]; exact rfl) | exact nI_z | exact nI_o | exact rfl) (by assumption) (by omega) (by first | decide | omega) ?_
        refine ld_a0 (np := 29) dX7_drop_28 rfl ?_
        refine wl_getr (np := 32) dX7_drop_29 rfl fl_X7_55 rfl (by assumption) (by assumption) ?_
        refine ld_i1 (np := 33) dX7_drop_32 rfl ?_
        refine wl_ialoadN (np := 34) dX7_drop_33 rfl (by first | (simp only [nIm, nIa, ← nI_succ]; exact rfl) | exact nI_z | exact nI_o | exact rfl) (by assumption) (by omega) (by first | decide | omega) ?_
        refine wi_ret dX7_drop_34 rfl (rfl) (Nat.le_refl _) (Nat.le_refl _) ?_
        refine ⟨(congrFun (gI_uI_ne (by omega)) k).trans e3, GoodM.s hFs hR rfl (fun a h0 h1 h2 h3 => gI_uI_ne h0) (fun j hj => gI_uI_nb hj) (fun j hj => rfl) (fun i hi => rfl) ?_⟩
        exact gI_uI_self _ _ _ _
    · match hT : S.2.2.2 k, hrS with
      | none, hrS =>
        refine wl_bipush (np := 20) (v := -11) dX7_drop_18 rfl (by decide) ?_
        refine wi_ret dX7_drop_20 rfl (rfl) (Nat.le_refl _) (Nat.le_refl _) ?_
        exact ⟨rfl, GoodM.same hFs hR⟩
      | some (l, L, f), hrS =>
        rw [hrS.1] at c_15
        exact absurd (Int32.not_le.mp c_15) hrS.2.1
  · unfold sp_drop
    rw [cif_f (if0 c_4)]
    refine wl_iconst (np := 8) (v := -1) dX7_drop_7 rfl (rfl) ?_
    refine wi_ret dX7_drop_8 rfl (rfl) (Nat.le_refl _) (Nat.le_refl _) ?_
    exact ⟨rfl, GoodM.same hFs hR⟩
theorem refS_neg {T : Sht} {lane i n : Int32} : refS T lane i n = 0 ∨ refS T lane i n < 0 := by
  match T with
  | none => exact Or.inr (by show (-11 : Int32) < 0; decide)
  | some (l, L, f) =>
    unfold refS
    dsimp only
    by_cases h1 : l = lane
    · rw [if_pos h1]
      by_cases h : inS L i n
      · rw [cif_t h]; exact Or.inl rfl
      · rw [cif_f h]; exact Or.inr (by decide)
    · rw [if_neg h1]; exact Or.inr (by decide)
theorem refS_0 {l : Int32} {L : Nat} {f : Nat → Int32} {lane i n : Int32} (h : refS (some (l, L, f)) lane i n = 0) : l = lane ∧ inS L i n := by
  unfold refS at h
  dsimp only at h
  by_cases h1 : l = lane
  · rw [if_pos h1] at h
    by_cases h2 : inS L i n
    · exact ⟨h1, h2⟩
    · rw [cif_f h2] at h; exact absurd h (by decide)
  · rw [if_neg h1] at h; exact absurd h (by decide)
set_option maxHeartbeats 4000000 in
set_option maxRecDepth 100000 in
theorem c_M_item (s lane i v : Int32) (hF : FixM sh me) (hR : RepM me S) (hd : 2 ≤ d) : CI d mX7_item sh [.ref 136, .int s, .int lane, .int i, .int v] me (fun x m => x = (sp_item S s lane i v).1 ∧ GoodM sh me m (sp_item S s lane i v).2) := by
  have hFs := hF
  obtain ⟨z0, ⟨x1, x2, x4, x5, x6, x10, x11, x12, x16, x17, x18, x21, x22, x24, x25, x26, x27⟩, ⟨g1, g2, g4, g5, g6, g10, g11, g12, g16, g17, g18, g21, g22, g24, g25, g26, g27⟩, gs⟩ := hF
  refine CI.mk (L := [.ref 136, .int s, .int lane, .int i, .int v, .float 0]) (by decide) (Nat.le_of_ble_eq_true rfl) rfl ?_
  have bad : ¬ (inR s 0 3 ∧ inR lane 0 2) → ∀ L4, Wa mX7_item (0, fun _ => 0) d 0 0 sh.length (PI sh (fun x m => x = (sp_item S s lane i v).1 ∧ GoodM sh me m (sp_item S s lane i v).2)) 14 L4 [] sh me 0 0 := by
    intro hb L4
    unfold sp_item
    rw [cif_f hb]
    refine wl_iconst (np := 15) (v := -1) dX7_item_14 rfl (rfl) ?_
    refine wi_ret dX7_item_15 rfl (rfl) (Nat.le_refl _) (Nat.le_refl _) ?_
    exact ⟨rfl, GoodM.same hFs hR⟩
  refine ld_i1 (np := 1) dX7_item_0 rfl ?_
  refine ciS_1 (np := 4) dX7_item_1 rfl lk_X7_228 (Nat.le_of_ble_eq_true rfl) (by omega) (Nat.le_refl _) (Nat.le_refl _) (c_M_isSheet _ (by omega)) (fun x_1 m_1 h_1 => ?_)
  obtain ⟨rfl, q_1⟩ := h_1
  have q_1 := q_1.symm
  subst q_1
  refine wl_if_eq (np := 7) (tg := 14) dX7_item_4 rfl rfl (fun c_4 => ?_) (fun c_4 => ?_)
  · exact bad (fun h => if0 c_4 h.1) _
  · refine ld_i2 (np := 8) dX7_item_7 rfl ?_
    refine ciS_1 (np := 11) dX7_item_8 rfl lk_X7_231 (Nat.le_of_ble_eq_true rfl) (by omega) (Nat.le_refl _) (Nat.le_refl _) (c_M_isLane _ (by omega)) (fun x_8 m_8 h_8 => ?_)
    obtain ⟨rfl, q_8⟩ := h_8
    have q_8 := q_8.symm
    subst q_8
    refine wl_if_ne (np := 14) (tg := 16) dX7_item_11 rfl rfl (fun c_11 => ?_) (fun c_11 => ?_)
    · have hgood : inR s 0 3 ∧ inR lane 0 2 := ⟨if1 c_4, if1 c_11⟩
      obtain ⟨k, hk, rfl⟩ := nI_of2 (x := s) (M := 3) (n := 3) rfl (Int32.not_lt.mpr hgood.1.1) hgood.1.2
      have hrS := hR.2.2.2 k (by omega)
      unfold sp_item
      rw [cif_t hgood, nI_clamp (by omega)]
      refine ld_a0 (np := 17) dX7_item_16 rfl ?_
      refine ld_i1 (np := 18) dX7_item_17 rfl ?_
      refine ld_i2 (np := 19) dX7_item_18 rfl ?_
      refine ld_i3 (np := 20) dX7_item_19 rfl ?_
      refine wl_iconst (np := 21) (v := 1) dX7_item_20 rfl (rfl) ?_
      refine ciV_4 (np := 24) dX7_item_21 rfl lk_X7_234 (by assumption) (Nat.le_of_ble_eq_true rfl) (by omega) (Nat.le_refl _) (Nat.le_refl _) (c_M_finds (nn := 1) lane i z0 g24 x24 g25 x25 (by omega) (by omega) (Int32.not_lt.mpr hgood.2.1) hrS) (fun x_21 m_21 h_21 => ?_)
      obtain ⟨rfl, q_21⟩ := h_21
      have q_21 := q_21.symm
      subst q_21
      refine st_i5 (np := 26) dX7_item_24 rfl (by decide) rfl ?_
      refine ld_i5 (np := 28) dX7_item_26 rfl ?_
      refine wl_if_ge (np := 31) (tg := 34) dX7_item_28 rfl rfl (fun c_28 => ?_) (fun c_28 => ?_)
      · have h0 : refS (S.2.2.2 k) lane i 1 = 0 := by
          rcases refS_neg (T := S.2.2.2 k) (lane := lane) (i := i) (n := 1) with q | q
          · exact q
          · exact absurd q (Int32.not_lt.mpr c_28)
        rw [if_pos h0]
        match hT : S.2.2.2 k, hrS, h0 with
        | none, _, h0 => exact absurd (show (-11 : Int32) = 0 from h0) (by decide)
        | some (l, L, f), hrS, h0 =>
          obtain ⟨e1, e2, e3, e4, e5⟩ := hrS
          obtain ⟨hl, ia, ib, rfl, hib, hab⟩ := refS_0 h0
          rw [nI_o, nI_eq (by omega) (by omega)] at hib
          rw [nI_clamp (by omega)]
          have fin : ∀ vv, vv = narS lane v → ∀ L4, Wa mX7_item (0, fun _ => 0) d 0 0 sh.length (PI sh (fun x m => x = (1, setSh S k (putIt (some (l, L, f)) ia (narS lane v))).1 ∧ GoodM sh me m (1, setSh S k (putIt (some (l, L, f)) ia (narS lane v))).2)) 67 L4 [.int vv, .int (nI 24 * nI k + nI ia), .ref 152] sh me 0 0 := by
            intro vv hvv L4
            refine wl_iastoreN (np := 68) dX7_item_67 rfl (by first | (simp only [nIm, nIa, ← nI_succ]; exact rfl) | exact nI_z | exact nI_o | exact rfl) (by assumption) (by omega) (by first | decide | omega) ?_
            refine wl_iconst (np := 69) (v := 1) dX7_item_68 rfl (rfl) ?_
            refine wi_ret dX7_item_69 rfl (rfl) (Nat.le_refl _) (Nat.le_refl _) ?_
            refine ⟨rfl, GoodM.s hFs hR rfl (fun a h0 h1 h2 h3 => gI_uI_ne h2) (fun j hj => rfl) (fun j hj => rfl) (fun i hi => gI_uI_nb (by omega)) ?_⟩
            refine ⟨e1, e2, e3, e4, fun y hy => ?_⟩
            rw [gI_uI, hvv]
            dsimp only
            by_cases hya : y = ia
            · rw [if_pos ⟨rfl, by omega⟩, if_pos hya]
            · rw [if_neg (by omega), if_neg hya]
              exact e5 y hy
          refine ld_a0 (np := 35) dX7_item_34 rfl ?_
          refine wl_getr (np := 38) dX7_item_35 rfl fl_X7_58 rfl (by assumption) (by assumption) ?_
          refine wl_bipush (np := 40) (v := nI 24) dX7_item_38 rfl (by decide) ?_
          refine ld_i1 (np := 41) dX7_item_40 rfl ?_
          refine wl_imul (np := 42) dX7_item_41 rfl ?_
          refine ld_i3 (np := 43) dX7_item_42 rfl ?_
          refine wl_iadd (np := 44) dX7_item_43 rfl ?_
          refine ld_i2 (np := 45) dX7_item_44 rfl ?_
          refine wl_if_ne (np := 48) (tg := 54) dX7_item_45 rfl rfl (fun c_45 => ?_) (fun c_45 => ?_)
          · refine ld_i2 (np := 55) dX7_item_54 rfl ?_
            refine wl_iconst (np := 56) (v := 1) dX7_item_55 rfl (rfl) ?_
            refine wl_icmp_ne (np := 59) (tg := 65) dX7_item_56 rfl rfl (fun c_56 => ?_) (fun c_56 => ?_)
            · refine ld_i4 (np := 67) dX7_item_65 rfl ?_
              exact fin _ (by unfold narS; rw [if_neg c_45, if_neg c_56]) _
            · refine ld_i4 (np := 61) dX7_item_59 rfl ?_
              refine wl_i2s (np := 62) dX7_item_61 rfl ?_
              refine wl_goto (tg := 67) dX7_item_62 rfl ?_
              exact fin _ (by unfold narS; rw [if_neg c_45, if_pos c_56]) _
          · refine ld_i4 (np := 50) dX7_item_48 rfl ?_
            refine wl_i2b (np := 51) dX7_item_50 rfl ?_
            refine wl_goto (tg := 67) dX7_item_51 rfl ?_
            exact fin _ (by unfold narS; rw [if_pos c_45]) _
      · skip
        have h0 : ¬ refS (S.2.2.2 k) lane i 1 = 0 := fun q => by
          have c2 := c_28
          rw [show refS (S.2.2.2 k) lane i (nI 1) = 0 from q] at c2
          exact c2 (by decide)
        rw [if_neg h0]
        refine ld_i5 (np := 33) dX7_item_31 rfl ?_
        refine wi_ret dX7_item_33 rfl (rfl) (Nat.le_refl _) (Nat.le_refl _) ?_
        exact ⟨rfl, GoodM.same hFs hR⟩
    · exact bad (fun h => if0 c_11 h.2) _
end M12
