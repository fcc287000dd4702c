section M9
variable {sh : List Shp} {me : Mem} {d kk : Nat} {S : St}
set_option maxHeartbeats 4000000 in
set_option maxRecDepth 100000 in
theorem c_M_count (w : Int32) (hF : FixM sh me) (hR : RepM me S) : CI d mX7_count sh [.ref 136, .int w] me (fun x m => x = (sp_count S w).1 ∧ GoodM sh me m (sp_count S w).2) := by
  have hFs := hF
  obtain ⟨z0, ⟨x1, x2, x4, x5, x6, x10, x11, x12, x16, x17, x18, x21, x22, x24, x25, x26, x27⟩, ⟨g1, g2, g4, g5, g6, g10, g11, g12, g16, g17, g18, g21, g22, g24, g25, g26, g27⟩, gs⟩ := hF
  obtain ⟨v1, v2, v3, v4, v5, v6, v7, v8, v9, v10, v11, v12⟩ := id hR.1
  have hn5 := v1.1
  have hs1 : sumF (fun p => gI me 137 (40 * p + 3)) S.1.1.length = sumL (S.1.1.map (fun P => nI P.2.1.length)) := sumF_eq _ _ _ (fun p P hp => (v1.2 p P hp).2.2.2.1)
  have fin : Wa mX7_count (0, fun _ => 0) d 0 0 sh.length (PI sh (fun x m => x = (sp_count S w).1 ∧ GoodM sh me m (sp_count S w).2)) 55 [.ref 136, .int w, .int (sumL (S.1.1.map (fun P => nI P.2.1.length))), .int (fellS S.1.1), .int (nI S.1.1.length)] [] sh me 0 0 := by
    refine ld_i1 (np := 56) dX7_count_55 rfl ?_
    rcases sw_cases (x := w) 5 (by decide) with hout | ⟨j, hj, rfl⟩
    · refine wl_tswO (tg := 120) dX7_count_56 hout rfl ?_
      have hne := sw_ne (by decide) hout
      refine wl_iconst (np := 121) (v := -1) dX7_count_120 rfl (rfl) ?_
      refine wi_ret dX7_count_121 rfl (rfl) (Nat.le_refl _) (Nat.le_refl _) ?_
      refine ⟨?_, GoodM.same hFs hR⟩
      unfold sp_count cntS
      rw [if_neg (show ¬ w = 0 from hne 0 (by omega)), if_neg (show ¬ w = 1 from hne 1 (by omega)), if_neg (show ¬ w = 2 from hne 2 (by omega)), if_neg (show ¬ w = 3 from hne 3 (by omega)), if_neg (show ¬ w = 4 from hne 4 (by omega)), if_neg (show ¬ w = 5 from hne 5 (by omega))]
    · match j, hj with
      | 0, _ =>
        refine wl_tswI (tg := 96) (off := 40) dX7_count_56 (by decide) (by decide) (by decide) rfl ?_
        refine ld_a0 (np := 97) dX7_count_96 rfl ?_
        refine wl_geti (np := 100) dX7_count_97 rfl fl_X7_64 (by decide) (by assumption) ?_
        refine wi_ret dX7_count_100 rfl (rfl) (Nat.le_refl _) (Nat.le_refl _) ?_
        exact ⟨v3, GoodM.same hFs hR⟩
      | 1, _ =>
        refine wl_tswI (tg := 101) (off := 45) dX7_count_56 (by decide) (by decide) (by decide) rfl ?_
        refine ld_a0 (np := 102) dX7_count_101 rfl ?_
        refine wl_geti (np := 105) dX7_count_102 rfl fl_X7_145 (by decide) (by assumption) ?_
        refine wi_ret dX7_count_105 rfl (rfl) (Nat.le_refl _) (Nat.le_refl _) ?_
        exact ⟨v8, GoodM.same hFs hR⟩
      | 2, _ =>
        refine wl_tswI (tg := 106) (off := 50) dX7_count_56 (by decide) (by decide) (by decide) rfl ?_
        refine ld_i2 (np := 107) dX7_count_106 rfl ?_
        refine wi_ret dX7_count_107 rfl (rfl) (Nat.le_refl _) (Nat.le_refl _) ?_
        exact ⟨rfl, GoodM.same hFs hR⟩
      | 3, _ =>
        refine wl_tswI (tg := 108) (off := 52) dX7_count_56 (by decide) (by decide) (by decide) rfl ?_
        refine ld_i3 (np := 109) dX7_count_108 rfl ?_
        refine wi_ret dX7_count_109 rfl (rfl) (Nat.le_refl _) (Nat.le_refl _) ?_
        exact ⟨rfl, GoodM.same hFs hR⟩
      | 4, _ =>
        refine wl_tswI (tg := 110) (off := 54) dX7_count_56 (by decide) (by decide) (by decide) rfl ?_
        refine ld_a0 (np := 111) dX7_count_110 rfl ?_
        refine wl_geti (np := 114) dX7_count_111 rfl fl_X7_148 (by decide) (by assumption) ?_
        refine wi_ret dX7_count_114 rfl (rfl) (Nat.le_refl _) (Nat.le_refl _) ?_
        exact ⟨v7, GoodM.same hFs hR⟩
      | 5, _ =>
        refine wl_tswI (tg := 115) (off := 59) dX7_count_56 (by decide) (by decide) (by decide) rfl ?_
        refine ld_a0 (np := 116) dX7_count_115 rfl ?_
        refine wl_geti (np := 119) dX7_count_116 rfl fl_X7_151 (by decide) (by assumption) ?_
        refine wi_ret dX7_count_119 rfl (rfl) (Nat.le_refl _) (Nat.le_refl _) ?_
        exact ⟨v10, GoodM.same hFs hR⟩
  have key : ∀ fuel i, S.1.1.length - i < fuel → i ≤ S.1.1.length → Wa mX7_count (0, fun _ => 0) d 0 0 sh.length (PI sh (fun x m => x = (sp_count S w).1 ∧ GoodM sh me m (sp_count S w).2)) 7 [.ref 136, .int w, .int (sumF (fun p => gI me 137 (40 * p + 3)) i), .int (fellF (fun p => ((S.1.1[p]?).getD ((0, 0, 0, 0), [], fun _ => 0)).1.2.2.2) i), .int (nI i)] [] sh me 0 0 := by
    intro fuel
    induction fuel with
    | zero => intro i h; omega
    | succ fuel ih =>
      intro i hi hin
      refine ld_i4 (np := 9) dX7_count_7 rfl ?_
      refine ld_a0 (np := 10) dX7_count_9 rfl ?_
      refine wl_geti (np := 13) dX7_count_10 rfl fl_X7_64 (by decide) (by assumption) ?_
      refine wl_icmp_ge (np := 16) (tg := 55) dX7_count_13 rfl rfl (fun c_13 => ?_) (fun c_13 => ?_)
      · rw [v3, nI_le_iff (by omega) (by omega)] at c_13
        rw [show i = S.1.1.length by omega, hs1]
        exact fin
      · rw [v3, nI_le_iff (by omega) (by omega)] at c_13
        obtain ⟨P, hPi⟩ : ∃ P, S.1.1[i]? = some P := ⟨_, List.getElem?_eq_getElem (by omega)⟩
        have hq := v1.2 i P hPi
        have e : fellF (fun p => ((S.1.1[p]?).getD ((0, 0, 0, 0), [], fun _ => 0)).1.2.2.2) (i + 1) = fellF (fun p => ((S.1.1[p]?).getD ((0, 0, 0, 0), [], fun _ => 0)).1.2.2.2) i ||| (gI me 137 (40 * i + 5) <<< (nI i &&& 31)) := by
          show (if ((S.1.1[i]?).getD ((0, 0, 0, 0), [], fun _ => 0)).1.2.2.2 = -4 then _ else _) = _
          rw [hPi, hq.2.2.2.2.2.2.1]
          dsimp only [Option.getD_some]
          by_cases hf : P.1.2.2.2 = -4
          · rw [if_pos hf, if_pos hf, Int32.zero_shiftLeft, Int32.or_zero]
          · rw [if_neg hf, if_neg hf]
        refine ld_i2 (np := 17) dX7_count_16 rfl ?_
        refine ld_a0 (np := 18) dX7_count_17 rfl ?_
        refine wl_getr (np := 21) dX7_count_18 rfl fl_X7_7 rfl (by assumption) (by assumption) ?_
        refine wl_bipush (np := 23) (v := nI 40) dX7_count_21 rfl (by decide) ?_
        refine ld_i4 (np := 25) dX7_count_23 rfl ?_
        refine wl_imul (np := 26) dX7_count_25 rfl ?_
        refine wl_iconst (np := 27) (v := nI 3) dX7_count_26 rfl (rfl) ?_
        refine wl_iadd (np := 28) dX7_count_27 rfl ?_
        refine wl_ialoadN (np := 29) dX7_count_28 rfl (by first | (simp only [nIm, nIa, ← nI_succ]; exact rfl) | exact nI_z | exact nI_o | exact rfl) (by assumption) (by omega) (by decide) ?_
        refine wl_iadd (np := 30) dX7_count_29 rfl ?_
        refine st_i2 (np := 31) dX7_count_30 rfl (by decide) rfl ?_
        refine ld_i3 (np := 32) dX7_count_31 rfl ?_
        refine ld_a0 (np := 33) dX7_count_32 rfl ?_
        refine wl_getr (np := 36) dX7_count_33 rfl fl_X7_7 rfl (by assumption) (by assumption) ?_
        refine wl_bipush (np := 38) (v := nI 40) dX7_count_36 rfl (by decide) ?_
        refine ld_i4 (np := 40) dX7_count_38 rfl ?_
        refine wl_imul (np := 41) dX7_count_40 rfl ?_
        refine wl_iconst (np := 42) (v := nI 5) dX7_count_41 rfl (rfl) ?_
        refine wl_iadd (np := 43) dX7_count_42 rfl ?_
        refine wl_ialoadN (np := 44) dX7_count_43 rfl (by first | (simp only [nIm, nIa, ← nI_succ]; exact rfl) | exact nI_z | exact nI_o | exact rfl) (by assumption) (by omega) (by decide) ?_
        refine ld_i4 (np := 46) dX7_count_44 rfl ?_
        refine wl_ishl (np := 47) dX7_count_46 rfl ?_
        refine wl_ior (np := 48) dX7_count_47 rfl ?_
        refine st_i3 (np := 49) dX7_count_48 rfl (by decide) rfl ?_
        refine inc_4 (np := 52) (v := _ + 1) dX7_count_49 rfl rfl (by decide) rfl ?_
        refine wl_goto (tg := 7) dX7_count_52 rfl ?_
        rw [← nI_succ, ← e]
        exact ih (i + 1) (by omega) (by omega)
  refine CI.mk (L := [.ref 136, .int w, .float 0, .float 0, .float 0]) (by decide) (Nat.le_of_ble_eq_true rfl) rfl ?_
  refine wl_iconst (np := 1) (v := 0) dX7_count_0 rfl (rfl) ?_
  refine st_i2 (np := 2) dX7_count_1 rfl (by decide) rfl ?_
  refine wl_iconst (np := 3) (v := 0) dX7_count_2 rfl (rfl) ?_
  refine st_i3 (np := 4) dX7_count_3 rfl (by decide) rfl ?_
  refine wl_iconst (np := 5) (v := 0) dX7_count_4 rfl (rfl) ?_
  refine st_i4 (np := 7) dX7_count_5 rfl (by decide) rfl ?_
  exact key (S.1.1.length + 1) 0 (by omega) (by omega)
def zrF (N : Nat → Int32) (a n : Nat) : Nat → Int32 := fun x => if a ≤ x ∧ x < a + n then 0 else N x
theorem zrF_succ (N : Nat → Int32) (a n : Nat) : upF (zrF N a n) (a + n) 0 = zrF N a (n + 1) := by
  funext x
  by_cases hx : x = a + n
  · subst hx
    rw [upF_s]
    unfold zrF
    rw [if_pos (by omega)]
  · rw [upF_n hx]
    unfold zrF
    exact if_iff (by omega)
theorem zrF_0 (N : Nat → Int32) (a : Nat) : zrF N a 0 = N := by
  funext x
  unfold zrF
  rw [if_neg (by omega)]
set_option maxHeartbeats 4000000 in
set_option maxRecDepth 100000 in
theorem c_M_person (pu inc str : Int32) (hF : FixM sh me) (hR : RepM me S) (hd : 2 ≤ d) : CI d mX7_person sh [.ref 136, .int pu, .int inc, .int str] me (fun x m => x = (sp_person S pu inc str).1 ∧ GoodM sh me m (sp_person S pu inc str).2) := by
  have hFs := hF
  obtain ⟨z0, ⟨x1, x2, x4, x5, x6, x10, x11, x12, x16, x17, x18, x21, x22, x24, x25, x26, x27⟩, ⟨g1, g2, g4, g5, g6, g10, g11, g12, g16, g17, g18, g21, g22, g24, g25, g26, g27⟩, gs⟩ := hF
  obtain ⟨v1, v2, v3, v4, v5, v6, v7, v8, v9, v10, v11, v12⟩ := id hR.1
  have hn5 := v1.1
  refine CI.mk (L := [.ref 136, .int pu, .int inc, .int str, .float 0]) (by decide) (Nat.le_of_ble_eq_true rfl) rfl ?_
  have bad : ¬ (inR pu 0 9999 ∧ inR inc 0 99 ∧ inR str 1 60) → ∀ L4, Wa mX7_person (0, fun _ => 0) d 0 0 sh.length (PI sh (fun x m => x = (sp_person S pu inc str).1 ∧ GoodM sh me m (sp_person S pu inc str).2)) 36 L4 [] sh me 0 0 := by
    intro hb L4
    unfold sp_person
    rw [cif_f hb]
    refine wl_iconst (np := 37) (v := -1) dX7_person_36 rfl (rfl) ?_
    refine wi_ret dX7_person_37 rfl (rfl) (Nat.le_refl _) (Nat.le_refl _) ?_
    exact ⟨rfl, GoodM.same hFs hR⟩
  refine ld_i1 (np := 1) dX7_person_0 rfl ?_
  refine wl_i2l (np := 2) dX7_person_1 rfl ?_
  refine wl_lconst (np := 3) (v := 0) dX7_person_2 rfl rfl ?_
  refine wl_ldc2 (np := 6) dX7_person_3 rfl wk_X7_74 ?_
  refine ciS_3 (np := 9) dX7_person_6 rfl lk_X7_68 (Nat.le_of_ble_eq_true rfl) (by omega) (Nat.le_refl _) (Nat.le_refl _) (c_in32 _ 0 9999 (by decide) (by decide)) (fun x_6 m_6 h_6 => ?_)
  obtain ⟨rfl, q_6⟩ := h_6
  have q_6 := q_6.symm
  subst q_6
  refine wl_if_eq (np := 12) (tg := 36) dX7_person_9 rfl rfl (fun c_9 => ?_) (fun c_9 => ?_)
  · exact bad (fun h => if0 c_9 h.1) _
  · refine ld_i2 (np := 13) dX7_person_12 rfl ?_
    refine wl_i2l (np := 14) dX7_person_13 rfl ?_
    refine wl_lconst (np := 15) (v := 0) dX7_person_14 rfl rfl ?_
    refine wl_ldc2 (np := 18) dX7_person_15 rfl wk_X7_76 ?_
    refine ciS_3 (np := 21) dX7_person_18 rfl lk_X7_68 (Nat.le_of_ble_eq_true rfl) (by omega) (Nat.le_refl _) (Nat.le_refl _) (c_in32 _ 0 99 (by decide) (by decide)) (fun x_18 m_18 h_18 => ?_)
    obtain ⟨rfl, q_18⟩ := h_18
    have q_18 := q_18.symm
    subst q_18
    refine wl_if_eq (np := 24) (tg := 36) dX7_person_21 rfl rfl (fun c_21 => ?_) (fun c_21 => ?_)
    · exact bad (fun h => if0 c_21 h.2.1) _
    · refine ld_i3 (np := 25) dX7_person_24 rfl ?_
      refine wl_i2l (np := 26) dX7_person_25 rfl ?_
      refine wl_lconst (np := 27) (v := 1) dX7_person_26 rfl rfl ?_
      refine wl_ldc2 (np := 30) dX7_person_27 rfl wk_X7_78 ?_
      refine ciS_3 (np := 33) dX7_person_30 rfl lk_X7_68 (Nat.le_of_ble_eq_true rfl) (by omega) (Nat.le_refl _) (Nat.le_refl _) (c_in32 _ 1 60 (by decide) (by decide)) (fun x_30 m_30 h_30 => ?_)
      obtain ⟨rfl, q_30⟩ := h_30
      have q_30 := q_30.symm
      subst q_30
      refine wl_if_ne (np := 36) (tg := 38) dX7_person_33 rfl rfl (fun c_33 => ?_) (fun c_33 => ?_)
      · have hgood : inR pu 0 9999 ∧ inR inc 0 99 ∧ inR str 1 60 := ⟨if1 c_9, if1 c_21, if1 c_33⟩
        unfold sp_person
        rw [cif_t hgood]
        generalize hn : S.1.1.length = n at *
        refine ld_a0 (np := 39) dX7_person_38 rfl ?_
        refine wl_geti (np := 42) dX7_person_39 rfl fl_X7_64 (by decide) (by assumption) ?_
        refine wl_iconst (np := 43) (v := nI 5) dX7_person_42 rfl (rfl) ?_
        refine wl_icmp_ne (np := 46) (tg := 49) dX7_person_43 rfl rfl (fun c_43 => ?_) (fun c_43 => ?_)
        · rw [v3, nI_eq (by omega) (by omega)] at c_43
          rw [if_neg (by omega)]
          generalize hFF : upF (upF (upF (upF (zrF (gI me 137) (40 * n) 40) (40 * n) pu) (40 * n + 1) inc) (40 * n + 2) str) (40 * n + 4) (-4) = FF
          have fin : Wa mX7_person (0, fun _ => 0) d 0 0 sh.length (PI sh (fun x m => x = (nI n, setPs S (S.1.1 ++ [((pu, inc, str, -4), [], fun _ => 0)])).1 ∧ GoodM sh me m (nI n, setPs S (S.1.1 ++ [((pu, inc, str, -4), [], fun _ => 0)])).2)) 170 [.ref 136, .int pu, .int inc, .int str, .int (nI 5)] [] sh (uA (uA me 137 FF) 139 (zrF (gI me 139) (5 * n) 5)) 0 0 := by
            refine ld_a0 (np := 171) dX7_person_170 rfl ?_
            refine wl_dup (np := 172) dX7_person_171 rfl rfl ?_
            refine wl_geti (np := 175) dX7_person_172 rfl fl_X7_64 (by decide) (by assumption) ?_
            refine wl_iconst (np := 176) (v := 1) dX7_person_175 rfl (rfl) ?_
            refine wl_iadd (np := 177) dX7_person_176 rfl ?_
            refine wl_puti (np := 180) dX7_person_177 rfl fl_X7_64 nf_7_0 rfl (by assumption) ?_
            refine ld_a0 (np := 181) dX7_person_180 rfl ?_
            refine wl_geti (np := 184) dX7_person_181 rfl fl_X7_64 (by decide) (by assumption) ?_
            refine wl_iconst (np := 185) (v := 1) dX7_person_184 rfl (rfl) ?_
            refine wl_isub (np := 186) dX7_person_185 rfl ?_
            refine wi_ret dX7_person_186 rfl (rfl) (Nat.le_refl _) (Nat.le_refl _) ?_
            have e0 : gI (uA (uA me 137 FF) 139 (zrF (gI me 139) (5 * n) 5)) 136 0 = nI n := v3
            rw [gI_uI_self, e0, ← nI_succ, nI_pred]
            refine ⟨rfl, GoodM.now hFs hR (RfM.of rfl) (fun x hx => (gI_uI_ne (by omega)).trans ((gI_uAn (by omega)).trans (gI_uAn (by omega)))) ⟨rfl, rfl, rfl, rfl, rfl, rfl, rfl⟩ ⟨⟨by simp; omega, fun p P hp => ?_⟩, fun p P hp l hl => ?_, ?_, v4, v5, v6, v7, v8, v9, v10, v11, v12⟩⟩
            · have e7 : gI (uI (uA (uA me 137 FF) 139 (zrF (gI me 139) (5 * n) 5)) 136 0 (nI (n + 1))) 137 = FF := by
                rw [gI_uI_ne (by omega), gI_uAn (by omega), gI_uAs]
              rw [e7, ← hFF]
              dsimp only at hp
              by_cases hlt : p < S.1.1.length
              · rw [List.getElem?_append_left hlt] at hp
                refine (v1.2 p P hp).fr (fun i h1 h2 => ?_)
                rw [upF_n (by omega), upF_n (by omega), upF_n (by omega), upF_n (by omega)]
                unfold zrF
                rw [if_neg (by omega)]
              · rw [List.getElem?_append_right (by omega)] at hp
                have hz : p - S.1.1.length < 1 := (List.getElem?_eq_some_iff.mp hp).1
                have hpe : p = n := by omega
                subst hpe
                rw [hn, Nat.sub_self] at hp
                cases hp
                have zz : ∀ i, 40 * p ≤ i → i < 40 * p + 40 → zrF (gI me 137) (40 * p) 40 i = 0 := fun i h1 h2 => by unfold zrF; rw [if_pos (by omega)]
                refine ⟨?_, ?_, ?_, ?_, by simp, ?_, ?_, fun c co hc => ?_⟩
                · rw [upF_n (by omega), upF_n (by omega), upF_n (by omega), upF_s]
                · rw [upF_n (by omega), upF_n (by omega), upF_s]
                · rw [upF_n (by omega), upF_s]
                · rw [upF_n (by omega), upF_n (by omega), upF_n (by omega), upF_n (by omega), zz _ (by omega) (by omega)]; rfl
                · rw [upF_s]
                · rw [upF_n (by omega), upF_n (by omega), upF_n (by omega), upF_n (by omega), zz _ (by omega) (by omega)]; rfl
                · simp at hc
            · have e9 : gI (uI (uA (uA me 137 FF) 139 (zrF (gI me 139) (5 * n) 5)) 136 0 (nI (n + 1))) 139 = zrF (gI me 139) (5 * n) 5 := by
                rw [gI_uI_ne (by omega), gI_uAs]
              rw [e9]
              unfold zrF
              dsimp only at hp
              by_cases hlt : p < S.1.1.length
              · rw [List.getElem?_append_left hlt] at hp
                rw [if_neg (by omega)]
                exact v2 p P hp l hl
              · rw [List.getElem?_append_right (by omega)] at hp
                have hz : p - S.1.1.length < 1 := (List.getElem?_eq_some_iff.mp hp).1
                have hpe : p = n := by omega
                subst hpe
                rw [hn, Nat.sub_self] at hp
                cases hp
                rw [if_pos (by omega)]
            · rw [gI_uI_self]; simp [setPs, hn]
          have key2 : ∀ fuel i, 5 - i < fuel → i ≤ 5 → Wa mX7_person (0, fun _ => 0) d 0 0 sh.length (PI sh (fun x m => x = (nI n, setPs S (S.1.1 ++ [((pu, inc, str, -4), [], fun _ => 0)])).1 ∧ GoodM sh me m (nI n, setPs S (S.1.1 ++ [((pu, inc, str, -4), [], fun _ => 0)])).2)) 143 [.ref 136, .int pu, .int inc, .int str, .int (nI i)] [] sh (uA (uA me 137 FF) 139 (zrF (gI me 139) (5 * n) i)) 0 0 := by
            intro fuel
            induction fuel with
            | zero => intro i h; omega
            | succ fuel ih =>
              intro i hi hin
              have e0 : gI (uA (uA me 137 FF) 139 (zrF (gI me 139) (5 * n) i)) 136 0 = nI n := v3
              refine ld_i4 (np := 145) dX7_person_143 rfl ?_
              refine wl_iconst (np := 146) (v := nI 5) dX7_person_145 rfl (rfl) ?_
              refine wl_icmp_ge (np := 149) (tg := 170) dX7_person_146 rfl rfl (fun c_146 => ?_) (fun c_146 => ?_)
              · rw [nI_le_iff (by omega) (by omega)] at c_146
                rw [show i = 5 by omega]
                exact fin
              · rw [nI_le_iff (by omega) (by omega)] at c_146
                refine ld_a0 (np := 150) dX7_person_149 rfl ?_
                refine wl_getr (np := 153) dX7_person_150 rfl fl_X7_19 rfl (by assumption) (by assumption) ?_
                refine wl_iconst (np := 154) (v := nI 5) dX7_person_153 rfl (rfl) ?_
                refine ld_a0 (np := 155) dX7_person_154 rfl ?_
                refine wl_geti (np := 158) dX7_person_155 rfl fl_X7_64 (by decide) (by assumption) ?_
                refine wl_imul (np := 159) dX7_person_158 rfl ?_
                refine ld_i4 (np := 161) dX7_person_159 rfl ?_
                refine wl_iadd (np := 162) dX7_person_161 rfl ?_
                refine wl_iconst (np := 163) (v := 0) dX7_person_162 rfl (rfl) ?_
                refine wl_iastoreN (np := 164) dX7_person_163 rfl (by first | (simp only [e0,nIm, nIa, ← nI_succ]; exact rfl) | exact nI_z | exact nI_o | exact rfl) (by assumption) (by omega) (by decide) ?_
                refine inc_4 (np := 167) (v := _ + 1) dX7_person_164 rfl rfl (by decide) rfl ?_
                refine wl_goto (tg := 143) dX7_person_167 rfl ?_
                rw [uI_uA, zrF_succ, ← nI_succ]
                exact ih (i + 1) (by omega) (by omega)
          have key1 : ∀ fuel i, 40 - i < fuel → i ≤ 40 → Wa mX7_person (0, fun _ => 0) d 0 0 sh.length (PI sh (fun x m => x = (nI n, setPs S (S.1.1 ++ [((pu, inc, str, -4), [], fun _ => 0)])).1 ∧ GoodM sh me m (nI n, setPs S (S.1.1 ++ [((pu, inc, str, -4), [], fun _ => 0)])).2)) 52 [.ref 136, .int pu, .int inc, .int str, .int (nI i)] [] sh (uA me 137 (zrF (gI me 137) (40 * n) i)) 0 0 := by
            intro fuel
            induction fuel with
            | zero => intro i h; omega
            | succ fuel ih =>
              intro i hi hin
              have e0 : ∀ f, gI (uA me 137 f) 136 0 = nI n := fun f => v3
              refine ld_i4 (np := 54) dX7_person_52 rfl ?_
              refine wl_bipush (np := 56) (v := nI 40) dX7_person_54 rfl (by decide) ?_
              refine wl_icmp_ge (np := 59) (tg := 81) dX7_person_56 rfl rfl (fun c_56 => ?_) (fun c_56 => ?_)
              · rw [nI_le_iff (by omega) (by omega)] at c_56
                rw [show i = 40 by omega]
                refine ld_a0 (np := 82) dX7_person_81 rfl ?_
                refine wl_getr (np := 85) dX7_person_82 rfl fl_X7_7 rfl (by assumption) (by assumption) ?_
                refine wl_bipush (np := 87) (v := nI 40) dX7_person_85 rfl (by decide) ?_
                refine ld_a0 (np := 88) dX7_person_87 rfl ?_
                refine wl_geti (np := 91) dX7_person_88 rfl fl_X7_64 (by decide) (by assumption) ?_
                refine wl_imul (np := 92) dX7_person_91 rfl ?_
                refine ld_i1 (np := 93) dX7_person_92 rfl ?_
                refine wl_iastoreN (np := 94) dX7_person_93 rfl (by first | (simp only [uI_uA, e0,nIm, nIa, ← nI_succ]; exact rfl) | exact nI_z | exact nI_o | exact rfl) (by assumption) (by omega) (by decide) ?_
                refine ld_a0 (np := 95) dX7_person_94 rfl ?_
                refine wl_getr (np := 98) dX7_person_95 rfl fl_X7_7 rfl (by assumption) (by assumption) ?_
                refine wl_bipush (np := 100) (v := nI 40) dX7_person_98 rfl (by decide) ?_
                refine ld_a0 (np := 101) dX7_person_100 rfl ?_
                refine wl_geti (np := 104) dX7_person_101 rfl fl_X7_64 (by decide) (by assumption) ?_
                refine wl_imul (np := 105) dX7_person_104 rfl ?_
                refine wl_iconst (np := 106) (v := 1) dX7_person_105 rfl (rfl) ?_
                refine wl_iadd (np := 107) dX7_person_106 rfl ?_
                refine ld_i2 (np := 108) dX7_person_107 rfl ?_
                refine wl_iastoreN (np := 109) dX7_person_108 rfl (by first | (simp only [uI_uA, e0,nIm, nIa, ← nI_succ]; exact rfl) | exact nI_z | exact nI_o | exact rfl) (by assumption) (by omega) (by decide) ?_
                refine ld_a0 (np := 110) dX7_person_109 rfl ?_
                refine wl_getr (np := 113) dX7_person_110 rfl fl_X7_7 rfl (by assumption) (by assumption) ?_
                refine wl_bipush (np := 115) (v := nI 40) dX7_person_113 rfl (by decide) ?_
                refine ld_a0 (np := 116) dX7_person_115 rfl ?_
                refine wl_geti (np := 119) dX7_person_116 rfl fl_X7_64 (by decide) (by assumption) ?_
                refine wl_imul (np := 120) dX7_person_119 rfl ?_
                refine wl_iconst (np := 121) (v := nI 2) dX7_person_120 rfl (rfl) ?_
                refine wl_iadd (np := 122) dX7_person_121 rfl ?_
                refine ld_i3 (np := 123) dX7_person_122 rfl ?_
                refine wl_iastoreN (np := 124) dX7_person_123 rfl (by first | (simp only [uI_uA, e0,nIm, nIa, ← nI_succ]; exact rfl) | exact nI_z | exact nI_o | exact rfl) (by assumption) (by omega) (by decide) ?_
                refine ld_a0 (np := 125) dX7_person_124 rfl ?_
                refine wl_getr (np := 128) dX7_person_125 rfl fl_X7_7 rfl (by assumption) (by assumption) ?_
                refine wl_bipush (np := 130) (v := nI 40) dX7_person_128 rfl (by decide) ?_
                refine ld_a0 (np := 131) dX7_person_130 rfl ?_
                refine wl_geti (np := 134) dX7_person_131 rfl fl_X7_64 (by decide) (by assumption) ?_
                refine wl_imul (np := 135) dX7_person_134 rfl ?_
                refine wl_iconst (np := 136) (v := nI 4) dX7_person_135 rfl (rfl) ?_
                refine wl_iadd (np := 137) dX7_person_136 rfl ?_
                refine wl_bipush (np := 139) (v := -4) dX7_person_137 rfl (by decide) ?_
                refine wl_iastoreN (np := 140) dX7_person_139 rfl (by first | (simp only [uI_uA, e0,nIm, nIa, ← nI_succ]; exact rfl) | exact nI_z | exact nI_o | exact rfl) (by assumption) (by omega) (by decide) ?_
                refine wl_iconst (np := 141) (v := 0) dX7_person_140 rfl (rfl) ?_
                refine st_i4 (np := 143) dX7_person_141 rfl (by decide) rfl ?_
                rw [uI_uA, uI_uA, uI_uA, uI_uA, hFF]
                have h0 := key2 6 0 (by omega) (by omega)
                have e9 : gI me 139 = gI (uA me 137 FF) 139 := rfl
                rw [zrF_0, e9, uA_id] at h0
                exact h0
              · rw [nI_le_iff (by omega) (by omega)] at c_56
                refine ld_a0 (np := 60) dX7_person_59 rfl ?_
                refine wl_getr (np := 63) dX7_person_60 rfl fl_X7_7 rfl (by assumption) (by assumption) ?_
                refine wl_bipush (np := 65) (v := nI 40) dX7_person_63 rfl (by decide) ?_
                refine ld_a0 (np := 66) dX7_person_65 rfl ?_
                refine wl_geti (np := 69) dX7_person_66 rfl fl_X7_64 (by decide) (by assumption) ?_
                refine wl_imul (np := 70) dX7_person_69 rfl ?_
                refine ld_i4 (np := 72) dX7_person_70 rfl ?_
                refine wl_iadd (np := 73) dX7_person_72 rfl ?_
                refine wl_iconst (np := 74) (v := 0) dX7_person_73 rfl (rfl) ?_
                refine wl_iastoreN (np := 75) dX7_person_74 rfl (by first | (simp only [e0,nIm, nIa, ← nI_succ]; exact rfl) | exact nI_z | exact nI_o | exact rfl) (by assumption) (by omega) (by decide) ?_
                refine inc_4 (np := 78) (v := _ + 1) dX7_person_75 rfl rfl (by decide) rfl ?_
                refine wl_goto (tg := 52) dX7_person_78 rfl ?_
                rw [uI_uA, zrF_succ, ← nI_succ]
                exact ih (i + 1) (by omega) (by omega)
          refine wl_iconst (np := 50) (v := 0) dX7_person_49 rfl (rfl) ?_
          refine st_i4 (np := 52) dX7_person_50 rfl (by decide) rfl ?_
          have h0 := key1 41 0 (by omega) (by omega)
          rw [zrF_0, uA_id] at h0
          exact h0
        · rw [v3, nI_eq (by omega) (by omega)] at c_43
          rw [if_pos (by omega)]
          refine wl_bipush (np := 48) (v := -3) dX7_person_46 rfl (by decide) ?_
          refine wi_ret dX7_person_48 rfl (rfl) (Nat.le_refl _) (Nat.le_refl _) ?_
          exact ⟨rfl, GoodM.same hFs hR⟩
      · exact bad (fun h => if0 c_33 h.2.2) _
end M9
