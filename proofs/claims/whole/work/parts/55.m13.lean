section M13
variable {sh : List Shp} {me : Mem} {d kk : Nat} {S : St}
set_option maxHeartbeats 4000000 in
set_option maxRecDepth 100000 in
theorem c_M_copy (a i b j n : Int32) (hF : FixM sh me) (hR : RepM me S) (hd : 2 ≤ d) : CI d mX7_copy sh [.ref 136, .int a, .int i, .int b, .int j, .int n] me (fun x m => x = (sp_copy S a i b j n).1 ∧ GoodM sh me m (sp_copy S a i b j n).2) := by
  have hFs := hF
  obtain ⟨z0, ⟨x1, x2, x4, x5, x6, x10, x11, x12, x16, x17, x18, x21, x22, x24, x25, x26, x27⟩, ⟨g1, g2, g4, g5, g6, g10, g11, g12, g16, g17, g18, g21, g22, g24, g25, g26, g27⟩, gs⟩ := hF
  refine CI.mk (L := [.ref 136, .int a, .int i, .int b, .int j, .int n, .float 0]) (by decide) (Nat.le_of_ble_eq_true rfl) rfl ?_
  have bad : ¬ (inR a 0 3 ∧ inR b 0 3) → ∀ L4, Wa mX7_copy (0, fun _ => 0) d 0 0 sh.length (PI sh (fun x m => x = (sp_copy S a i b j n).1 ∧ GoodM sh me m (sp_copy S a i b j n).2)) 14 L4 [] sh me 0 0 := by
    intro hb L4
    unfold sp_copy
    rw [cif_f hb]
    refine wl_iconst (np := 15) (v := -1) dX7_copy_14 rfl (rfl) ?_
    refine wi_ret dX7_copy_15 rfl (rfl) (Nat.le_refl _) (Nat.le_refl _) ?_
    exact ⟨rfl, GoodM.same hFs hR⟩
  refine ld_i1 (np := 1) dX7_copy_0 rfl ?_
  refine ciS_1 (np := 4) dX7_copy_1 rfl lk_X7_228 (Nat.le_of_ble_eq_true rfl) (by omega) (Nat.le_refl _) (Nat.le_refl _) (c_M_isSheet _ (by omega)) (fun x_1 m_1 h_1 => ?_)
  obtain ⟨rfl, q_1⟩ := h_1
  have q_1 := q_1.symm
  subst q_1
  refine wl_if_eq (np := 7) (tg := 14) dX7_copy_4 rfl rfl (fun c_4 => ?_) (fun c_4 => ?_)
  · exact bad (fun h => if0 c_4 h.1) _
  · refine ld_i3 (np := 8) dX7_copy_7 rfl ?_
    refine ciS_1 (np := 11) dX7_copy_8 rfl lk_X7_228 (Nat.le_of_ble_eq_true rfl) (by omega) (Nat.le_refl _) (Nat.le_refl _) (c_M_isSheet _ (by omega)) (fun x_8 m_8 h_8 => ?_)
    obtain ⟨rfl, q_8⟩ := h_8
    have q_8 := q_8.symm
    subst q_8
    refine wl_if_ne (np := 14) (tg := 16) dX7_copy_11 rfl rfl (fun c_11 => ?_) (fun c_11 => ?_)
    · have hgood : inR a 0 3 ∧ inR b 0 3 := ⟨if1 c_4, if1 c_11⟩
      obtain ⟨ka, hka, rfl⟩ := nI_of2 (x := a) (M := 3) (n := 3) rfl (Int32.not_lt.mpr hgood.1.1) hgood.1.2
      obtain ⟨kb, hkb, rfl⟩ := nI_of2 (x := b) (M := 3) (n := 3) rfl (Int32.not_lt.mpr hgood.2.1) hgood.2.2
      have hrA := hR.2.2.2 ka (by omega)
      have hrB := hR.2.2.2 kb (by omega)
      unfold sp_copy
      rw [cif_t hgood, nI_clamp (by omega), nI_clamp (by omega)]
      match hTA : S.2.2.2 ka, hTB : S.2.2.2 kb, hrA, hrB with
      | none, TB, hrA, hrB =>
        have e : cpyS S i (nI kb) j n none TB = (-11, S) := by cases TB <;> rfl
        rw [e]
        have h0 : gI me 150 ka = -1 := hrA
        refine ld_a0 (np := 17) dX7_copy_16 rfl ?_
        refine wl_getr (np := 20) dX7_copy_17 rfl fl_X7_52 rfl (by assumption) (by assumption) ?_
        refine ld_i1 (np := 21) dX7_copy_20 rfl ?_
        refine wl_ialoadN (np := 22) dX7_copy_21 rfl (by first | (simp only [nIm, nIa, ← nI_succ]; exact rfl) | exact nI_z | exact nI_o | exact rfl) (by assumption) (by omega) (by first | decide | omega) ?_
        refine wl_if_lt (np := 25) (tg := 34) dX7_copy_22 rfl rfl (fun c_22 => ?_) (fun c_22 => ?_)
        · refine wl_bipush (np := 36) (v := -11) dX7_copy_34 rfl (by decide) ?_
          refine wi_ret dX7_copy_36 rfl (rfl) (Nat.le_refl _) (Nat.le_refl _) ?_
          exact ⟨rfl, GoodM.same hFs hR⟩
        · rw [h0] at c_22
          exact absurd (show (-1 : Int32) < 0 by decide) c_22
      | some (l, L, f), none, hrA, hrB =>
        obtain ⟨e1, e2, e3, e4, e5⟩ := hrA
        have h0 : gI me 150 kb = -1 := hrB
        have e : cpyS S i (nI kb) j n (some (l, L, f)) none = (-11, S) := rfl
        rw [e]
        refine ld_a0 (np := 17) dX7_copy_16 rfl ?_
        refine wl_getr (np := 20) dX7_copy_17 rfl fl_X7_52 rfl (by assumption) (by assumption) ?_
        refine ld_i1 (np := 21) dX7_copy_20 rfl ?_
        refine wl_ialoadN (np := 22) dX7_copy_21 rfl (by first | (simp only [nIm, nIa, ← nI_succ]; exact rfl) | exact nI_z | exact nI_o | exact rfl) (by assumption) (by omega) (by first | decide | omega) ?_
        refine wl_if_lt (np := 25) (tg := 34) dX7_copy_22 rfl rfl (fun c_22 => ?_) (fun c_22 => ?_)
        · rw [e1] at c_22
          exact absurd c_22 e2
        · refine ld_a0 (np := 26) dX7_copy_25 rfl ?_
          refine wl_getr (np := 29) dX7_copy_26 rfl fl_X7_52 rfl (by assumption) (by assumption) ?_
          refine ld_i3 (np := 30) dX7_copy_29 rfl ?_
          refine wl_ialoadN (np := 31) dX7_copy_30 rfl (by first | (simp only [nIm, nIa, ← nI_succ]; exact rfl) | exact nI_z | exact nI_o | exact rfl) (by assumption) (by omega) (by first | decide | omega) ?_
          refine wl_if_ge (np := 34) (tg := 37) dX7_copy_31 rfl rfl (fun c_31 => ?_) (fun c_31 => ?_)
          · rw [h0] at c_31
            exact absurd c_31 (by decide)
          · refine wl_bipush (np := 36) (v := -11) dX7_copy_34 rfl (by decide) ?_
            refine wi_ret dX7_copy_36 rfl (rfl) (Nat.le_refl _) (Nat.le_refl _) ?_
            exact ⟨rfl, GoodM.same hFs hR⟩
      | some (l, L, f), some (l2, L2, f2), hrA, hrB =>
        have hrA0 := hrA
        have hrB0 := hrB
        obtain ⟨e1, e2, e3, e4, e5⟩ := hrA
        obtain ⟨u1, u2, u3, u4, u5⟩ := hrB
        have e : cpyS S i (nI kb) j n (some (l, L, f)) (some (l2, L2, f2)) = if l = l2 then cif (inS L i n ∧ inS L2 j n) (n, setSh S (nI kb).toNatClampNeg (some (l2, L2, fun x => if j.toNatClampNeg ≤ x ∧ x < j.toNatClampNeg + n.toNatClampNeg then f (i.toNatClampNeg + (x - j.toNatClampNeg)) else f2 x))) (-13, S) else (-12, S) := rfl
        rw [e, nI_clamp (by omega)]
        refine ld_a0 (np := 17) dX7_copy_16 rfl ?_
        refine wl_getr (np := 20) dX7_copy_17 rfl fl_X7_52 rfl (by assumption) (by assumption) ?_
        refine ld_i1 (np := 21) dX7_copy_20 rfl ?_
        refine wl_ialoadN (np := 22) dX7_copy_21 rfl (by first | (simp only [nIm, nIa, ← nI_succ]; exact rfl) | exact nI_z | exact nI_o | exact rfl) (by assumption) (by omega) (by first | decide | omega) ?_
        refine wl_if_lt (np := 25) (tg := 34) dX7_copy_22 rfl rfl (fun c_22 => ?_) (fun c_22 => ?_)
        · rw [e1] at c_22
          exact absurd c_22 e2
        · refine ld_a0 (np := 26) dX7_copy_25 rfl ?_
          refine wl_getr (np := 29) dX7_copy_26 rfl fl_X7_52 rfl (by assumption) (by assumption) ?_
          refine ld_i3 (np := 30) dX7_copy_29 rfl ?_
          refine wl_ialoadN (np := 31) dX7_copy_30 rfl (by first | (simp only [nIm, nIa, ← nI_succ]; exact rfl) | exact nI_z | exact nI_o | exact rfl) (by assumption) (by omega) (by first | decide | omega) ?_
          refine wl_if_ge (np := 34) (tg := 37) dX7_copy_31 rfl rfl (fun c_31 => ?_) (fun c_31 => ?_)
          · refine ld_a0 (np := 38) dX7_copy_37 rfl ?_
            refine wl_getr (np := 41) dX7_copy_38 rfl fl_X7_52 rfl (by assumption) (by assumption) ?_
            refine ld_i1 (np := 42) dX7_copy_41 rfl ?_
            refine wl_ialoadN (np := 43) dX7_copy_42 rfl (by first | (simp only [nIm, nIa, ← nI_succ]; exact rfl) | exact nI_z | exact nI_o | exact rfl) (by assumption) (by omega) (by first | decide | omega) ?_
            refine ld_a0 (np := 44) dX7_copy_43 rfl ?_
            refine wl_getr (np := 47) dX7_copy_44 rfl fl_X7_52 rfl (by assumption) (by assumption) ?_
            refine ld_i3 (np := 48) dX7_copy_47 rfl ?_
            refine wl_ialoadN (np := 49) dX7_copy_48 rfl (by first | (simp only [nIm, nIa, ← nI_succ]; exact rfl) | exact nI_z | exact nI_o | exact rfl) (by assumption) (by omega) (by first | decide | omega) ?_
            refine wl_icmp_eq (np := 52) (tg := 55) dX7_copy_49 rfl rfl (fun c_49 => ?_) (fun c_49 => ?_)
            · rw [e1, u1] at c_49
              rw [if_pos c_49]
              have bad2 : ¬ (inS L i n ∧ inS L2 j n) → ∀ L4, Wa mX7_copy (0, fun _ => 0) d 0 0 sh.length (PI sh (fun x m => x = (cif (inS L i n ∧ inS L2 j n) (n, setSh S kb (some (l2, L2, fun x => if j.toNatClampNeg ≤ x ∧ x < j.toNatClampNeg + n.toNatClampNeg then f (i.toNatClampNeg + (x - j.toNatClampNeg)) else f2 x))) (-13, S)).1 ∧ GoodM sh me m (cif (inS L i n ∧ inS L2 j n) (n, setSh S kb (some (l2, L2, fun x => if j.toNatClampNeg ≤ x ∧ x < j.toNatClampNeg + n.toNatClampNeg then f (i.toNatClampNeg + (x - j.toNatClampNeg)) else f2 x))) (-13, S)).2)) 95 L4 [] sh me 0 0 := by
                intro hb L4
                rw [cif_f hb]
                refine wl_bipush (np := 97) (v := -13) dX7_copy_95 rfl (by decide) ?_
                refine wi_ret dX7_copy_97 rfl (rfl) (Nat.le_refl _) (Nat.le_refl _) ?_
                exact ⟨rfl, GoodM.same hFs hR⟩
              refine ld_i5 (np := 57) dX7_copy_55 rfl ?_
              refine wl_if_lt (np := 60) (tg := 95) dX7_copy_57 rfl rfl (fun c_57 => ?_) (fun c_57 => ?_)
              · refine bad2 ?_ _
                rintro ⟨⟨a', b', -, rfl, hab⟩, -⟩
                exact absurd c_57 (Int32.not_lt.mpr (nI_pos' (by omega)))
              · obtain ⟨nn, hnn, rfl⟩ := nI_of c_57
                refine ld_a0 (np := 61) dX7_copy_60 rfl ?_
                refine ld_i1 (np := 62) dX7_copy_61 rfl ?_
                refine ld_a0 (np := 63) dX7_copy_62 rfl ?_
                refine wl_getr (np := 66) dX7_copy_63 rfl fl_X7_52 rfl (by assumption) (by assumption) ?_
                refine ld_i1 (np := 67) dX7_copy_66 rfl ?_
                refine wl_ialoadN (np := 68) dX7_copy_67 rfl (by first | (simp only [nIm, nIa, ← nI_succ]; exact rfl) | exact nI_z | exact nI_o | exact rfl) (by assumption) (by omega) (by first | decide | omega) ?_
                refine ld_i2 (np := 69) dX7_copy_68 rfl ?_
                refine ld_i5 (np := 71) dX7_copy_69 rfl ?_
                refine ciV_4 (np := 74) dX7_copy_71 rfl lk_X7_234 (by assumption) (Nat.le_of_ble_eq_true rfl) (by omega) (Nat.le_refl _) (Nat.le_refl _) (by rw [e1]; exact c_M_finds l i z0 g24 x24 g25 x25 (by omega) hnn e2 hrA0) (fun x_71 m_71 h_71 => ?_)
                obtain ⟨rfl, q_71⟩ := h_71
                have q_71 := q_71.symm
                subst q_71
                refine wl_if_lt (np := 77) (tg := 95) dX7_copy_74 rfl rfl (fun c_74 => ?_) (fun c_74 => ?_)
                · refine bad2 (fun h => ?_) _
                  have hr : refS (some (l, L, f)) l i (nI nn) = 0 := by unfold refS; dsimp only; rw [if_pos rfl, cif_t h.1]
                  rw [hr] at c_74
                  exact absurd c_74 (by decide)
                · have h74 : inS L i (nI nn) := by
                    rcases refS_neg (T := some (l, L, f)) (lane := l) (i := i) (n := nI nn) with q | q
                    · exact (refS_0 q).2
                    · exact absurd q c_74
                  refine ld_a0 (np := 78) dX7_copy_77 rfl ?_
                  refine ld_i3 (np := 79) dX7_copy_78 rfl ?_
                  refine ld_a0 (np := 80) dX7_copy_79 rfl ?_
                  refine wl_getr (np := 83) dX7_copy_80 rfl fl_X7_52 rfl (by assumption) (by assumption) ?_
                  refine ld_i3 (np := 84) dX7_copy_83 rfl ?_
                  refine wl_ialoadN (np := 85) dX7_copy_84 rfl (by first | (simp only [nIm, nIa, ← nI_succ]; exact rfl) | exact nI_z | exact nI_o | exact rfl) (by assumption) (by omega) (by first | decide | omega) ?_
                  refine ld_i4 (np := 87) dX7_copy_85 rfl ?_
                  refine ld_i5 (np := 89) dX7_copy_87 rfl ?_
                  refine ciV_4 (np := 92) dX7_copy_89 rfl lk_X7_234 (by assumption) (Nat.le_of_ble_eq_true rfl) (by omega) (Nat.le_refl _) (Nat.le_refl _) (by rw [u1]; exact c_M_finds l2 j z0 g24 x24 g25 x25 (by omega) hnn u2 hrB0) (fun x_89 m_89 h_89 => ?_)
                  obtain ⟨rfl, q_89⟩ := h_89
                  have q_89 := q_89.symm
                  subst q_89
                  refine wl_if_ge (np := 95) (tg := 98) dX7_copy_92 rfl rfl (fun c_92 => ?_) (fun c_92 => ?_)
                  · have h92 : inS L2 j (nI nn) := by
                      rcases refS_neg (T := some (l2, L2, f2)) (lane := l2) (i := j) (n := nI nn) with q | q
                      · exact (refS_0 q).2
                      · exact absurd q (Int32.not_lt.mpr c_92)
                    rw [cif_t ⟨h74, h92⟩]
                    obtain ⟨ia, ib, rfl, hib, hab⟩ := h74
                    obtain ⟨ja, jb, rfl, hjb, hab2⟩ := h92
                    rw [nI_eq (by omega) (by omega)] at hib hjb
                    subst hib
                    subst hjb
                    rw [nI_clamp (by omega), nI_clamp (by omega), nI_clamp (by omega)]
                    have key2 : ∀ fuel y (MV : Nat → Int32), nn - y < fuel → y ≤ nn → (∀ x, x < nn → MV x = f (ia + x)) → Wa mX7_copy (0, fun _ => 0) d 0 0 sh.length (PI sh (fun x m => x = (nI nn, setSh S kb (some (l2, L2, fun x => if ja ≤ x ∧ x < ja + nn then f (ia + (x - ja)) else f2 x))).1 ∧ GoodM sh me m (nI nn, setSh S kb (some (l2, L2, fun x => if ja ≤ x ∧ x < ja + nn then f (ia + (x - ja)) else f2 x))).2)) 138 [.ref 136, .int (nI ka), .int (nI ia), .int (nI kb), .int (nI ja), .int (nI nn), .int (nI y)] [] sh (uA (uA me 153 MV) 152 (layF (gI me 152) MV (24 * kb + ja) y)) 0 0 := by
                      intro fuel
                      induction fuel with
                      | zero => intro y MV h; omega
                      | succ fuel ih =>
                        intro y MV hy hyn hMV
                        refine ld_i6 (np := 140) dX7_copy_138 rfl ?_
                        refine ld_i5 (np := 142) dX7_copy_140 rfl ?_
                        refine wl_icmp_ge (np := 145) (tg := 173) dX7_copy_142 rfl rfl (fun c_142 => ?_) (fun c_142 => ?_)
                        · rw [nI_le_iff (by omega) (by omega)] at c_142
                          have hye : y = nn := by omega
                          subst hye
                          refine ld_i5 (np := 175) dX7_copy_173 rfl ?_
                          refine wi_ret dX7_copy_175 rfl (rfl) (Nat.le_refl _) (Nat.le_refl _) ?_
                          refine ⟨rfl, GoodM.s hFs hR rfl (fun a h0 h1 h2 h3 => (gI_uAn h2).trans (gI_uAn h3)) (fun j hj => rfl) (fun j hj => rfl) (fun x hx => ?_) ⟨u1, u2, u3, u4, fun x hx => ?_⟩⟩
                          · rw [gI_uAs, layF_out (by omega)]
                          · rw [gI_uAs]
                            dsimp only
                            by_cases hjx : ja ≤ x ∧ x < ja + y
                            · rw [if_pos hjx, show 24 * kb + x = 24 * kb + ja + (x - ja) by omega, layF_in (by omega)]
                              exact hMV _ (by omega)
                            · rw [if_neg hjx, layF_out (by omega)]
                              exact u5 x hx
                        · rw [nI_le_iff (by omega) (by omega)] at c_142
                          refine ld_a0 (np := 146) dX7_copy_145 rfl ?_
                          refine wl_getr (np := 149) dX7_copy_146 rfl fl_X7_58 rfl (by assumption) (by assumption) ?_
                          refine wl_bipush (np := 151) (v := nI 24) dX7_copy_149 rfl (by decide) ?_
                          refine ld_i3 (np := 152) dX7_copy_151 rfl ?_
                          refine wl_imul (np := 153) dX7_copy_152 rfl ?_
                          refine ld_i4 (np := 155) dX7_copy_153 rfl ?_
                          refine wl_iadd (np := 156) dX7_copy_155 rfl ?_
                          refine ld_i6 (np := 158) dX7_copy_156 rfl ?_
                          refine wl_iadd (np := 159) dX7_copy_158 rfl ?_
                          refine ld_a0 (np := 160) dX7_copy_159 rfl ?_
                          refine wl_getr (np := 163) dX7_copy_160 rfl fl_X7_61 rfl (by assumption) (by assumption) ?_
                          refine ld_i6 (np := 165) dX7_copy_163 rfl ?_
                          refine wl_ialoadN (np := 166) dX7_copy_165 rfl (by first | (simp only [nIm, nIa, ← nI_succ]; exact rfl) | exact nI_z | exact nI_o | exact rfl) (by assumption) (by omega) (by first | decide | omega) ?_
                          refine wl_iastoreN (np := 167) dX7_copy_166 rfl (by first | (simp only [nIm, nIa, ← nI_succ]; exact rfl) | exact nI_z | exact nI_o | exact rfl) (by assumption) (by omega) (by first | decide | omega) ?_
                          refine inc_6 (np := 170) (v := _ + 1) dX7_copy_167 rfl rfl (by decide) rfl ?_
                          refine wl_goto (tg := 138) dX7_copy_170 rfl ?_
                          have e3 : gI (uA (uA me 153 MV) 152 (layF (gI me 152) MV (24 * kb + ja) y)) 153 y = MV y := by rw [gI_uAn (by omega), gI_uAs]
                          rw [e3, uI_uA, layF_succ, ← nI_succ]
                          exact ih (y + 1) MV (by omega) (by omega) hMV
                    have key1 : ∀ fuel y (MV : Nat → Int32), nn - y < fuel → y ≤ nn → (∀ x, x < y → MV x = f (ia + x)) → Wa mX7_copy (0, fun _ => 0) d 0 0 sh.length (PI sh (fun x m => x = (nI nn, setSh S kb (some (l2, L2, fun x => if ja ≤ x ∧ x < ja + nn then f (ia + (x - ja)) else f2 x))).1 ∧ GoodM sh me m (nI nn, setSh S kb (some (l2, L2, fun x => if ja ≤ x ∧ x < ja + nn then f (ia + (x - ja)) else f2 x))).2)) 101 [.ref 136, .int (nI ka), .int (nI ia), .int (nI kb), .int (nI ja), .int (nI nn), .int (nI y)] [] sh (uA me 153 MV) 0 0 := by
                      intro fuel
                      induction fuel with
                      | zero => intro y MV h; omega
                      | succ fuel ih =>
                        intro y MV hy hyn hMV
                        refine ld_i6 (np := 103) dX7_copy_101 rfl ?_
                        refine ld_i5 (np := 105) dX7_copy_103 rfl ?_
                        refine wl_icmp_ge (np := 108) (tg := 135) dX7_copy_105 rfl rfl (fun c_105 => ?_) (fun c_105 => ?_)
                        · rw [nI_le_iff (by omega) (by omega)] at c_105
                          have hye : y = nn := by omega
                          subst hye
                          refine wl_iconst (np := 136) (v := 0) dX7_copy_135 rfl (rfl) ?_
                          refine st_i6 (np := 138) dX7_copy_136 rfl (by decide) rfl ?_
                          have h0 := key2 (y + 1) 0 MV (by omega) (by omega) hMV
                          have e9 : layF (gI me 152) MV (24 * kb + ja) 0 = gI (uA me 153 MV) 152 := by
                            rw [gI_uAn (by omega)]
                            funext x
                            exact layF_out (by omega)
                          rw [e9, uA_id] at h0
                          exact h0
                        · rw [nI_le_iff (by omega) (by omega)] at c_105
                          refine ld_a0 (np := 109) dX7_copy_108 rfl ?_
                          refine wl_getr (np := 112) dX7_copy_109 rfl fl_X7_61 rfl (by assumption) (by assumption) ?_
                          refine ld_i6 (np := 114) dX7_copy_112 rfl ?_
                          refine ld_a0 (np := 115) dX7_copy_114 rfl ?_
                          refine wl_getr (np := 118) dX7_copy_115 rfl fl_X7_58 rfl (by assumption) (by assumption) ?_
                          refine wl_bipush (np := 120) (v := nI 24) dX7_copy_118 rfl (by decide) ?_
                          refine ld_i1 (np := 121) dX7_copy_120 rfl ?_
                          refine wl_imul (np := 122) dX7_copy_121 rfl ?_
                          refine ld_i2 (np := 123) dX7_copy_122 rfl ?_
                          refine wl_iadd (np := 124) dX7_copy_123 rfl ?_
                          refine ld_i6 (np := 126) dX7_copy_124 rfl ?_
                          refine wl_iadd (np := 127) dX7_copy_126 rfl ?_
                          refine wl_ialoadN (np := 128) dX7_copy_127 rfl (by first | (simp only [nIm, nIa, ← nI_succ]; exact rfl) | exact nI_z | exact nI_o | exact rfl) (by assumption) (by omega) (by first | decide | omega) ?_
                          refine wl_iastoreN (np := 129) dX7_copy_128 rfl (by first | (simp only [nIm, nIa, ← nI_succ]; exact rfl) | exact nI_z | exact nI_o | exact rfl) (by assumption) (by omega) (by first | decide | omega) ?_
                          refine inc_6 (np := 132) (v := _ + 1) dX7_copy_129 rfl rfl (by decide) rfl ?_
                          refine wl_goto (tg := 101) dX7_copy_132 rfl ?_
                          rw [uI_uA, ← nI_succ]
                          refine ih (y + 1) _ (by omega) (by omega) (fun x hx => ?_)
                          by_cases hxy : x = y
                          · subst hxy
                            rw [upF_s, gI_uAn (by omega), show 24 * ka + ia + x = 24 * ka + (ia + x) by omega]
                            exact e5 _ (by omega)
                          · rw [upF_n hxy]
                            exact hMV x (by omega)
                    refine wl_iconst (np := 99) (v := 0) dX7_copy_98 rfl (rfl) ?_
                    refine st_i6 (np := 101) dX7_copy_99 rfl (by decide) rfl ?_
                    have h0 := key1 (nn + 1) 0 (gI me 153) (by omega) (by omega) (fun x hx => by omega)
                    rw [uA_id] at h0
                    exact h0
                  · refine bad2 (fun h => ?_) _
                    have hr : refS (some (l2, L2, f2)) l2 j (nI nn) = 0 := by unfold refS; dsimp only; rw [if_pos rfl, cif_t h.2]
                    rw [hr] at c_92
                    exact absurd c_92 (by decide)
            · rw [e1, u1] at c_49
              rw [if_neg c_49]
              refine wl_bipush (np := 54) (v := -12) dX7_copy_52 rfl (by decide) ?_
              refine wi_ret dX7_copy_54 rfl (rfl) (Nat.le_refl _) (Nat.le_refl _) ?_
              exact ⟨rfl, GoodM.same hFs hR⟩
          · rw [u1] at c_31
            exact absurd (Int32.not_le.mp c_31) u2
    · exact bad (fun h => if0 c_11 h.2) _
set_option maxHeartbeats 4000000 in
set_option maxRecDepth 100000 in
theorem c_M_under (w th am wh : Int32) (hF : FixM sh me) (hR : RepM me S) (hd : 1 ≤ d) : CI d mX7_under sh [.ref 136, .int w, .int th, .int am, .int wh] me (fun x m => x = (sp_under S w th am wh).1 ∧ GoodM sh me m (sp_under S w th am wh).2) := by
  have hFs := hF
  obtain ⟨z0, ⟨x1, x2, x4, x5, x6, x10, x11, x12, x16, x17, x18, x21, x22, x24, x25, x26, x27⟩, ⟨g1, g2, g4, g5, g6, g10, g11, g12, g16, g17, g18, g21, g22, g24, g25, g26, g27⟩, gs⟩ := hF
  obtain ⟨v1, v2, v3, v4, v5, v6, v7, v8, v9, v10, v11, v12⟩ := id hR.1
  refine CI.mk (L := [.ref 136, .int w, .int th, .int am, .int wh, .float 0, .float 0, .float 0, .float 0, .float 0, .float 0]) (by decide) (Nat.le_of_ble_eq_true rfl) rfl ?_
  have bad : ¬ (inR w 0 (nI S.1.2.2.2.2.length - 1) ∧ inR th 1 99 ∧ inR am 1 99999 ∧ inR wh 0 1) → ∀ L4, Wa mX7_under (0, fun _ => 0) d 0 0 sh.length (PI sh (fun x m => x = (sp_under S w th am wh).1 ∧ GoodM sh me m (sp_under S w th am wh).2)) 51 L4 [] sh me 0 0 := by
    intro hb L4
    unfold sp_under
    rw [cif_f hb]
    refine wl_iconst (np := 52) (v := -1) dX7_under_51 rfl (rfl) ?_
    refine wi_ret dX7_under_52 rfl (rfl) (Nat.le_refl _) (Nat.le_refl _) ?_
    exact ⟨rfl, GoodM.same hFs hR⟩
  refine ld_i1 (np := 1) dX7_under_0 rfl ?_
  refine wl_i2l (np := 2) dX7_under_1 rfl ?_
  refine wl_lconst (np := 3) (v := 0) dX7_under_2 rfl rfl ?_
  refine ld_a0 (np := 4) dX7_under_3 rfl ?_
  refine wl_geti (np := 7) dX7_under_4 rfl fl_X7_151 (by decide) (by assumption) ?_
  refine wl_iconst (np := 8) (v := 1) dX7_under_7 rfl (rfl) ?_
  refine wl_isub (np := 9) dX7_under_8 rfl ?_
  refine wl_i2l (np := 10) dX7_under_9 rfl ?_
  refine ciS_3 (np := 13) dX7_under_10 rfl lk_X7_68 (Nat.le_of_ble_eq_true rfl) (by omega) (Nat.le_refl _) (Nat.le_refl _) (c_in32 _ 0 _ (by decide) rfl) (fun x_10 m_10 h_10 => ?_)
  obtain ⟨rfl, q_10⟩ := h_10
  have q_10 := q_10.symm
  subst q_10
  refine wl_if_eq (np := 16) (tg := 51) dX7_under_13 rfl rfl (fun c_13 => ?_) (fun c_13 => ?_)
  · rw [v10] at c_13
    exact bad (fun h => if0 c_13 h.1) _
  · rw [v10] at c_13
    refine ld_i2 (np := 17) dX7_under_16 rfl ?_
    refine wl_i2l (np := 18) dX7_under_17 rfl ?_
    refine wl_lconst (np := 19) (v := 1) dX7_under_18 rfl rfl ?_
    refine wl_ldc2 (np := 22) dX7_under_19 rfl wk_X7_76 ?_
    refine ciS_3 (np := 25) dX7_under_22 rfl lk_X7_68 (Nat.le_of_ble_eq_true rfl) (by omega) (Nat.le_refl _) (Nat.le_refl _) (c_in32 _ 1 99 (by decide) (by decide)) (fun x_22 m_22 h_22 => ?_)
    obtain ⟨rfl, q_22⟩ := h_22
    have q_22 := q_22.symm
    subst q_22
    refine wl_if_eq (np := 28) (tg := 51) dX7_under_25 rfl rfl (fun c_25 => ?_) (fun c_25 => ?_)
    · exact bad (fun h => if0 c_25 h.2.1) _
    · refine ld_i3 (np := 29) dX7_under_28 rfl ?_
      refine wl_i2l (np := 30) dX7_under_29 rfl ?_
      refine wl_lconst (np := 31) (v := 1) dX7_under_30 rfl rfl ?_
      refine wl_ldc2 (np := 34) dX7_under_31 rfl wk_X7_215 ?_
      refine ciS_3 (np := 37) dX7_under_34 rfl lk_X7_68 (Nat.le_of_ble_eq_true rfl) (by omega) (Nat.le_refl _) (Nat.le_refl _) (c_in32 _ 1 99999 (by decide) (by decide)) (fun x_34 m_34 h_34 => ?_)
      obtain ⟨rfl, q_34⟩ := h_34
      have q_34 := q_34.symm
      subst q_34
      refine wl_if_eq (np := 40) (tg := 51) dX7_under_37 rfl rfl (fun c_37 => ?_) (fun c_37 => ?_)
      · exact bad (fun h => if0 c_37 h.2.2.1) _
      · refine ld_i4 (np := 42) dX7_under_40 rfl ?_
        refine wl_i2l (np := 43) dX7_under_42 rfl ?_
        refine wl_lconst (np := 44) (v := 0) dX7_under_43 rfl rfl ?_
        refine wl_lconst (np := 45) (v := 1) dX7_under_44 rfl rfl ?_
        refine ciS_3 (np := 48) dX7_under_45 rfl lk_X7_68 (Nat.le_of_ble_eq_true rfl) (by omega) (Nat.le_refl _) (Nat.le_refl _) (c_in32 _ 0 1 (by decide) (by decide)) (fun x_45 m_45 h_45 => ?_)
        obtain ⟨rfl, q_45⟩ := h_45
        have q_45 := q_45.symm
        subst q_45
        refine wl_if_ne (np := 51) (tg := 53) dX7_under_48 rfl rfl (fun c_48 => ?_) (fun c_48 => ?_)
        · have hgood : inR w 0 (nI S.1.2.2.2.2.length - 1) ∧ inR th 1 99 ∧ inR am 1 99999 ∧ inR wh 0 1 := ⟨if1 c_13, if1 c_25, if1 c_37, if1 c_48⟩
          unfold sp_under
          rw [cif_t hgood]
          obtain ⟨p1, p2, p3⟩ := pow_le8 _ v11
          generalize hT : unF S.1.2.2.2.2 w th am (2 ^ S.1.2.2.2.2.length - 1) (0, -4) = T
          have key : ∀ s r1 r2, s ≤ 255 → unF S.1.2.2.2.2 w th am s (r1, r2) = T → ∀ v8 v9 v10, v8.category = 1 → v9.category = 1 → v10.category = 1 → Wa mX7_under (0, fun _ => 0) d 0 0 sh.length (PI sh (fun x m => x = ((if wh = 0 then T.1 else T.2), S).1 ∧ GoodM sh me m ((if wh = 0 then T.1 else T.2), S).2)) 70 [.ref 136, .int w, .int th, .int am, .int wh, .int r1, .int r2, .int (nI s), v8, v9, v10] [] sh me 0 0 := by
            intro s
            induction s with
            | zero =>
              intro r1 r2 hs hr w8 w9 w10 hw8 hw9 hw10
              have hr : (r1, r2) = T := hr
              subst hr
              refine ld_i7 (np := 72) dX7_under_70 rfl ?_
              refine wl_if_le (np := 75) (tg := 203) dX7_under_72 rfl rfl (fun c_72 => ?_) (fun c_72 => ?_)
              · refine ld_i4 (np := 205) dX7_under_203 rfl ?_
                refine wl_if_ne (np := 208) (tg := 213) dX7_under_205 rfl rfl (fun c_205 => ?_) (fun c_205 => ?_)
                · rw [if_neg c_205]
                  refine ld_i6 (np := 215) dX7_under_213 rfl ?_
                  refine wi_ret dX7_under_215 rfl (rfl) (Nat.le_refl _) (Nat.le_refl _) ?_
                  exact ⟨rfl, GoodM.same hFs hR⟩
                · rw [if_pos c_205]
                  refine ld_i5 (np := 210) dX7_under_208 rfl ?_
                  refine wl_goto (tg := 215) dX7_under_210 rfl ?_
                  refine wi_ret dX7_under_215 rfl (rfl) (Nat.le_refl _) (Nat.le_refl _) ?_
                  exact ⟨rfl, GoodM.same hFs hR⟩
              · exact absurd (show nI 0 ≤ 0 by decide) c_72
            | succ s ih =>
              intro r1 r2 hs hr w8 w9 w10 hw8 hw9 hw10
              have hr : unF S.1.2.2.2.2 w th am s (if ¬ ((nI (s + 1) >>> (w &&& 31)) &&& 1 = 0) ∧ condSum (nI (s + 1)) (wTh S.1.2.2.2.2) S.1.2.2.2.2.length = th ∧ condSum (nI (s + 1)) (wAm S.1.2.2.2.2) S.1.2.2.2.2.length = am then (r1 + 1, nI (s + 1)) else (r1, r2)) = T := hr
              have k166 : ∀ bb x1 x2 u8 u9, (bb = 1 ∧ unF S.1.2.2.2.2 w th am s (r1 + 1, nI (s + 1)) = T ∨ bb = 0 ∧ unF S.1.2.2.2.2 w th am s (r1, r2) = T) → x1 = r1 → x2 = r2 → ∀ u10, u10.category = 1 → Wa mX7_under (0, fun _ => 0) d 0 0 sh.length (PI sh (fun x m => x = ((if wh = 0 then T.1 else T.2), S).1 ∧ GoodM sh me m ((if wh = 0 then T.1 else T.2), S).2)) 166 [.ref 136, .int w, .int th, .int am, .int wh, .int x1, .int x2, .int (nI (s + 1)), .int u8, .int u9, u10] [.int bb] sh me 0 0 := by
                intro bb x1 x2 u8 u9 hb e1 e2 u10 h10
                subst e1
                subst e2
                have ee : nI (s + 1) + -1 = nI s := by rw [← nI_pred s, Int32.sub_eq_add_neg]
                rcases hb with ⟨rfl, hb⟩ | ⟨rfl, hb⟩
                · refine st_i10 (np := 168) dX7_under_166 rfl (by decide) rfl ?_
                  refine ld_i5 (np := 170) dX7_under_168 rfl ?_
                  refine ld_i10 (np := 172) dX7_under_170 rfl ?_
                  refine wl_if_eq (np := 175) (tg := 179) dX7_under_172 rfl rfl (fun c_172 => ?_) (fun c_172 => ?_)
                  · exact absurd c_172 (by decide)
                  · refine wl_iconst (np := 176) (v := 1) dX7_under_175 rfl (rfl) ?_
                    refine wl_goto (tg := 180) dX7_under_176 rfl ?_
                    refine wl_iadd (np := 181) dX7_under_180 rfl ?_
                    refine st_i5 (np := 183) dX7_under_181 rfl (by decide) rfl ?_
                    refine ld_i10 (np := 185) dX7_under_183 rfl ?_
                    refine wl_if_eq (np := 188) (tg := 193) dX7_under_185 rfl rfl (fun c_185 => ?_) (fun c_185 => ?_)
                    · exact absurd c_185 (by decide)
                    · refine ld_i7 (np := 190) dX7_under_188 rfl ?_
                      refine wl_goto (tg := 195) dX7_under_190 rfl ?_
                      refine st_i6 (np := 197) dX7_under_195 rfl (by decide) rfl ?_
                      refine inc_7 (np := 200) (v := _ + (-1)) dX7_under_197 rfl rfl (by decide) rfl ?_
                      refine wl_goto (tg := 70) dX7_under_200 rfl ?_
                      rw [ee]
                      exact ih _ _ (by omega) hb _ _ _ rfl rfl rfl
                · refine st_i10 (np := 168) dX7_under_166 rfl (by decide) rfl ?_
                  refine ld_i5 (np := 170) dX7_under_168 rfl ?_
                  refine ld_i10 (np := 172) dX7_under_170 rfl ?_
                  refine wl_if_eq (np := 175) (tg := 179) dX7_under_172 rfl rfl (fun c_172 => ?_) (fun c_172 => ?_)
                  · refine wl_iconst (np := 180) (v := 0) dX7_under_179 rfl (rfl) ?_
                    refine wl_iadd (np := 181) dX7_under_180 rfl ?_
                    refine st_i5 (np := 183) dX7_under_181 rfl (by decide) rfl ?_
                    refine ld_i10 (np := 185) dX7_under_183 rfl ?_
                    refine wl_if_eq (np := 188) (tg := 193) dX7_under_185 rfl rfl (fun c_185 => ?_) (fun c_185 => ?_)
                    · refine ld_i6 (np := 195) dX7_under_193 rfl ?_
                      refine st_i6 (np := 197) dX7_under_195 rfl (by decide) rfl ?_
                      refine inc_7 (np := 200) (v := _ + (-1)) dX7_under_197 rfl rfl (by decide) rfl ?_
                      refine wl_goto (tg := 70) dX7_under_200 rfl ?_
                      rw [ee, Int32.add_zero]
                      exact ih _ _ (by omega) hb _ _ _ rfl rfl rfl
                    · exact absurd rfl c_185
                  · exact absurd rfl c_172
              have k139 : ∀ w10, w10.category = 1 → Wa mX7_under (0, fun _ => 0) d 0 0 sh.length (PI sh (fun x m => x = ((if wh = 0 then T.1 else T.2), S).1 ∧ GoodM sh me m ((if wh = 0 then T.1 else T.2), S).2)) 139 [.ref 136, .int w, .int th, .int am, .int wh, .int r1, .int r2, .int (nI (s + 1)), .int (condSum (nI (s + 1)) (wAm S.1.2.2.2.2) S.1.2.2.2.2.length), .int (condSum (nI (s + 1)) (wTh S.1.2.2.2.2) S.1.2.2.2.2.length), w10] [] sh me 0 0 := by
                intro w10 hw10
                refine ld_i7 (np := 141) dX7_under_139 rfl ?_
                refine ld_i1 (np := 142) dX7_under_141 rfl ?_
                refine wl_ishr (np := 143) dX7_under_142 rfl ?_
                refine wl_iconst (np := 144) (v := 1) dX7_under_143 rfl (rfl) ?_
                refine wl_iand (np := 145) dX7_under_144 rfl ?_
                refine wl_iconst (np := 146) (v := 1) dX7_under_145 rfl (rfl) ?_
                refine wl_icmp_ne (np := 149) (tg := 165) dX7_under_146 rfl rfl (fun c_146 => ?_) (fun c_146 => ?_)
                · have c0 : (nI (s + 1) >>> (w &&& 31)) &&& 1 = 0 := by
                    rcases and1 (nI (s + 1) >>> (w &&& 31)) with q | q
                    · exact q
                    · exact absurd q c_146
                  rw [if_neg (fun q => q.1 c0)] at hr
                  refine wl_iconst (np := 166) (v := 0) dX7_under_165 rfl (rfl) ?_
                  exact k166 _ _ _ _ _ (Or.inr ⟨rfl, hr⟩) rfl rfl _ hw10
                · have c0 : ¬ (nI (s + 1) >>> (w &&& 31)) &&& 1 = 0 := fun q => by
                    rw [q] at c_146
                    exact absurd c_146 (by decide)
                  refine ld_i8 (np := 151) dX7_under_149 rfl ?_
                  refine ld_i3 (np := 152) dX7_under_151 rfl ?_
                  refine wl_icmp_ne (np := 155) (tg := 165) dX7_under_152 rfl rfl (fun c_152 => ?_) (fun c_152 => ?_)
                  · rw [if_neg (fun q => c_152 q.2.2)] at hr
                    refine wl_iconst (np := 166) (v := 0) dX7_under_165 rfl (rfl) ?_
                    exact k166 _ _ _ _ _ (Or.inr ⟨rfl, hr⟩) rfl rfl _ hw10
                  · refine ld_i9 (np := 157) dX7_under_155 rfl ?_
                    refine ld_i2 (np := 158) dX7_under_157 rfl ?_
                    refine wl_icmp_ne (np := 161) (tg := 165) dX7_under_158 rfl rfl (fun c_158 => ?_) (fun c_158 => ?_)
                    · rw [if_neg (fun q => c_158 q.2.1)] at hr
                      refine wl_iconst (np := 166) (v := 0) dX7_under_165 rfl (rfl) ?_
                      exact k166 _ _ _ _ _ (Or.inr ⟨rfl, hr⟩) rfl rfl _ hw10
                    · rw [if_pos ⟨c0, c_158, c_152⟩] at hr
                      refine wl_iconst (np := 162) (v := 1) dX7_under_161 rfl (rfl) ?_
                      refine wl_goto (tg := 166) dX7_under_162 rfl ?_
                      exact k166 _ _ _ _ _ (Or.inl ⟨rfl, hr⟩) rfl rfl _ hw10
              have step : ∀ (F : Nat → Int32) k, condSum (nI (s + 1)) F (k + 1) = condSum (nI (s + 1)) F k + ((nI (s + 1) >>> (nI k &&& 31)) &&& 1) * F k := fun F k => by
                show (if (nI (s + 1) >>> (nI k &&& 31)) &&& 1 = 0 then condSum (nI (s + 1)) F k else condSum (nI (s + 1)) F k + F k) = _
                rcases and1 (nI (s + 1) >>> (nI k &&& 31)) with q | q
                · rw [if_pos q, q, Int32.zero_mul, Int32.add_zero]
                · rw [if_neg (by rw [q]; decide), q, Int32.one_mul]
              have key2 : ∀ fuel k, S.1.2.2.2.2.length - k < fuel → k ≤ S.1.2.2.2.2.length → Wa mX7_under (0, fun _ => 0) d 0 0 sh.length (PI sh (fun x m => x = ((if wh = 0 then T.1 else T.2), S).1 ∧ GoodM sh me m ((if wh = 0 then T.1 else T.2), S).2)) 84 [.ref 136, .int w, .int th, .int am, .int wh, .int r1, .int r2, .int (nI (s + 1)), .int (condSum (nI (s + 1)) (wAm S.1.2.2.2.2) k), .int (condSum (nI (s + 1)) (wTh S.1.2.2.2.2) k), .int (nI k)] [] sh me 0 0 := by
                intro fuel
                induction fuel with
                | zero => intro k h; omega
                | succ fuel ih2 =>
                  intro k hk1 hk2
                  refine ld_i10 (np := 86) dX7_under_84 rfl ?_
                  refine ld_a0 (np := 87) dX7_under_86 rfl ?_
                  refine wl_geti (np := 90) dX7_under_87 rfl fl_X7_151 (by decide) (by assumption) ?_
                  refine wl_icmp_ge (np := 93) (tg := 139) dX7_under_90 rfl rfl (fun c_90 => ?_) (fun c_90 => ?_)
                  · rw [v10, nI_le_iff (by omega) (by omega)] at c_90
                    rw [show k = S.1.2.2.2.2.length by omega]
                    exact k139 _ rfl
                  · rw [v10, nI_le_iff (by omega) (by omega)] at c_90
                    have ea : gI me 142 k = wAm S.1.2.2.2.2 k := by
                      rw [(v12 k _ (List.getElem?_eq_getElem (by omega))).1]; unfold wAm; rw [List.getElem?_eq_getElem (by omega)]; rfl
                    have et : gI me 143 k = wTh S.1.2.2.2.2 k := by
                      rw [(v12 k _ (List.getElem?_eq_getElem (by omega))).2]; unfold wTh; rw [List.getElem?_eq_getElem (by omega)]; rfl
                    refine ld_i8 (np := 95) dX7_under_93 rfl ?_
                    refine ld_i7 (np := 97) dX7_under_95 rfl ?_
                    refine ld_i10 (np := 99) dX7_under_97 rfl ?_
                    refine wl_ishr (np := 100) dX7_under_99 rfl ?_
                    refine wl_iconst (np := 101) (v := 1) dX7_under_100 rfl (rfl) ?_
                    refine wl_iand (np := 102) dX7_under_101 rfl ?_
                    refine ld_a0 (np := 103) dX7_under_102 rfl ?_
                    refine wl_getr (np := 106) dX7_under_103 rfl fl_X7_28 rfl (by assumption) (by assumption) ?_
                    refine ld_i10 (np := 108) dX7_under_106 rfl ?_
                    refine wl_ialoadN (np := 109) dX7_under_108 rfl (by first | (simp only [nIm, nIa, ← nI_succ]; exact rfl) | exact nI_z | exact nI_o | exact rfl) (by assumption) (by omega) (by first | decide | omega) ?_
                    refine wl_imul (np := 110) dX7_under_109 rfl ?_
                    refine wl_iadd (np := 111) dX7_under_110 rfl ?_
                    refine st_i8 (np := 113) dX7_under_111 rfl (by decide) rfl ?_
                    refine ld_i9 (np := 115) dX7_under_113 rfl ?_
                    refine ld_i7 (np := 117) dX7_under_115 rfl ?_
                    refine ld_i10 (np := 119) dX7_under_117 rfl ?_
                    refine wl_ishr (np := 120) dX7_under_119 rfl ?_
                    refine wl_iconst (np := 121) (v := 1) dX7_under_120 rfl (rfl) ?_
                    refine wl_iand (np := 122) dX7_under_121 rfl ?_
                    refine ld_a0 (np := 123) dX7_under_122 rfl ?_
                    refine wl_getr (np := 126) dX7_under_123 rfl fl_X7_31 rfl (by assumption) (by assumption) ?_
                    refine ld_i10 (np := 128) dX7_under_126 rfl ?_
                    refine wl_ialoadN (np := 129) dX7_under_128 rfl (by first | (simp only [nIm, nIa, ← nI_succ]; exact rfl) | exact nI_z | exact nI_o | exact rfl) (by assumption) (by omega) (by first | decide | omega) ?_
                    refine wl_imul (np := 130) dX7_under_129 rfl ?_
                    refine wl_iadd (np := 131) dX7_under_130 rfl ?_
                    refine st_i9 (np := 133) dX7_under_131 rfl (by decide) rfl ?_
                    refine inc_10 (np := 136) (v := _ + 1) dX7_under_133 rfl rfl (by decide) rfl ?_
                    refine wl_goto (tg := 84) dX7_under_136 rfl ?_
                    rw [ea, et, ← step, ← step, ← nI_succ]
                    exact ih2 (k + 1) (by omega) (by omega)
              refine ld_i7 (np := 72) dX7_under_70 rfl ?_
              refine wl_if_le (np := 75) (tg := 203) dX7_under_72 rfl rfl (fun c_72 => ?_) (fun c_72 => ?_)
              · rw [nI_z, nI_leI (by omega) (by omega)] at c_72
                omega
              · refine wl_iconst (np := 76) (v := 0) dX7_under_75 rfl (rfl) ?_
                refine st_i8 (np := 78) dX7_under_76 rfl (by decide) rfl ?_
                refine wl_iconst (np := 79) (v := 0) dX7_under_78 rfl (rfl) ?_
                refine st_i9 (np := 81) dX7_under_79 rfl (by decide) rfl ?_
                refine wl_iconst (np := 82) (v := 0) dX7_under_81 rfl (rfl) ?_
                refine st_i10 (np := 84) dX7_under_82 rfl (by decide) rfl ?_
                exact key2 (S.1.2.2.2.2.length + 1) 0 (by omega) (by omega)
          refine wl_iconst (np := 54) (v := 0) dX7_under_53 rfl (rfl) ?_
          refine st_i5 (np := 56) dX7_under_54 rfl (by decide) rfl ?_
          refine wl_bipush (np := 58) (v := -4) dX7_under_56 rfl (by decide) ?_
          refine st_i6 (np := 60) dX7_under_58 rfl (by decide) rfl ?_
          refine wl_iconst (np := 61) (v := 1) dX7_under_60 rfl (rfl) ?_
          refine ld_a0 (np := 62) dX7_under_61 rfl ?_
          refine wl_geti (np := 65) dX7_under_62 rfl fl_X7_151 (by decide) (by assumption) ?_
          refine wl_ishl (np := 66) dX7_under_65 rfl ?_
          refine wl_iconst (np := 67) (v := 1) dX7_under_66 rfl (rfl) ?_
          refine wl_isub (np := 68) dX7_under_67 rfl ?_
          refine st_i7 (np := 70) dX7_under_68 rfl (by decide) rfl ?_
          rw [v10, p1]
          exact key (2 ^ S.1.2.2.2.2.length - 1) 0 (-4) (by omega) hT _ _ _ rfl rfl rfl
        · exact bad (fun h => if0 c_48 h.2.2.2) _
end M13
