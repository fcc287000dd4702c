section M11
variable {sh : List Shp} {me : Mem} {d kk : Nat} {S : St}
set_option maxHeartbeats 4000000 in
set_option maxRecDepth 100000 in
theorem c_M_type (w : Int64) (n : Int32) (hF : FixM sh me) (hR : RepM me S) (hd : 1 ≤ d) : CI d mX7_type sh [.ref 136, .long w, .int n] me (fun x m => x = (sp_type S w n).1 ∧ GoodM sh me m (sp_type S w n).2) := by
  have hFs := hF
  obtain ⟨z0, ⟨x1, x2, x4, x5, x6, x10, x11, x12, x16, x17, x18, x21, x22, x24, x25, x26, x27⟩, ⟨g1, g2, g4, g5, g6, g10, g11, g12, g16, g17, g18, g21, g22, g24, g25, g26, g27⟩, gs⟩ := hF
  obtain ⟨f1, f2, f3⟩ := id hR.2.2.1
  refine CI.mk (L := [.ref 136, .long w, .float 0, .int n, .float 0]) (by decide) (Nat.le_of_ble_eq_true rfl) rfl ?_
  refine ld_i3 (np := 1) dX7_type_0 rfl ?_
  refine wl_i2l (np := 2) dX7_type_1 rfl ?_
  refine wl_lconst (np := 3) (v := 1) dX7_type_2 rfl rfl ?_
  refine wl_ldc2 (np := 6) dX7_type_3 rfl wk_X7_108 ?_
  refine ciS_3 (np := 9) dX7_type_6 rfl lk_X7_68 (Nat.le_of_ble_eq_true rfl) (by omega) (Nat.le_refl _) (Nat.le_refl _) (c_in32 _ 1 8 (by decide) (by decide)) (fun x_6 m_6 h_6 => ?_)
  obtain ⟨rfl, q_6⟩ := h_6
  have q_6 := q_6.symm
  subst q_6
  refine wl_if_ne (np := 12) (tg := 14) dX7_type_9 rfl rfl (fun c_9 => ?_) (fun c_9 => ?_)
  · have hin := if1 c_9
    obtain ⟨j, hj, rfl⟩ := nI_of2 (x := n) (M := 8) (n := 8) rfl (Int32.not_lt.mpr (Int32.le_trans (by decide) hin.1)) hin.2
    unfold sp_type
    rw [nI_clamp (by omega)]
    have fin : prnt w j → ∀ v4, v4.category = 1 → Wa mX7_type (0, fun _ => 0) d 0 0 sh.length (PI sh (fun x m => x = (cif (inR (nI j) 1 8 ∧ prnt w j) (if 80 < S.2.2.1.1 + j then (-3, S) else (nI (S.2.2.1.1 + j), (S.1, S.2.1, (S.2.2.1.1 + j, fun i => if i < S.2.2.1.1 then S.2.2.1.2 i else btI w (nI (j - 1 - (i - S.2.2.1.1)))), S.2.2.2))) (-1, S)).1 ∧ GoodM sh me m (cif (inR (nI j) 1 8 ∧ prnt w j) (if 80 < S.2.2.1.1 + j then (-3, S) else (nI (S.2.2.1.1 + j), (S.1, S.2.1, (S.2.2.1.1 + j, fun i => if i < S.2.2.1.1 then S.2.2.1.2 i else btI w (nI (j - 1 - (i - S.2.2.1.1)))), S.2.2.2))) (-1, S)).2)) 54 [.ref 136, .long w, .float 0, .int (nI j), v4] [] sh me 0 0 := by
      intro hpr v4 hv4
      rw [cif_t ⟨hin, hpr⟩]
      refine ld_a0 (np := 55) dX7_type_54 rfl ?_
      refine wl_geti (np := 58) dX7_type_55 rfl fl_X7_116 (by decide) (by assumption) ?_
      refine ld_i3 (np := 59) dX7_type_58 rfl ?_
      refine wl_iadd (np := 60) dX7_type_59 rfl ?_
      refine wl_bipush (np := 62) (v := nI 80) dX7_type_60 rfl (by decide) ?_
      refine wl_icmp_le (np := 65) (tg := 68) dX7_type_62 rfl rfl (fun c_62 => ?_) (fun c_62 => ?_)
      · rw [f1, nI_add, nI_leI (by omega) (by decide)] at c_62
        rw [if_neg (by omega)]
        have key : ∀ i f, i ≤ j → (∀ b, b < S.2.2.1.1 → f b = gI me 144 b) → (∀ b, S.2.2.1.1 ≤ b → b < S.2.2.1.1 + (j - i) → f b = btI w (nI (j - 1 - (b - S.2.2.1.1)))) → Wa mX7_type (0, fun _ => 0) d 0 0 sh.length (PI sh (fun x m => x = (nI (S.2.2.1.1 + j), (S.1, S.2.1, (S.2.2.1.1 + j, fun i => if i < S.2.2.1.1 then S.2.2.1.2 i else btI w (nI (j - 1 - (i - S.2.2.1.1)))), S.2.2.2)).1 ∧ GoodM sh me m (nI (S.2.2.1.1 + j), (S.1, S.2.1, (S.2.2.1.1 + j, fun i => if i < S.2.2.1.1 then S.2.2.1.2 i else btI w (nI (j - 1 - (i - S.2.2.1.1)))), S.2.2.2)).2)) 73 [.ref 136, .long w, .float 0, .int (nI j), .int (nI i - 1)] [] sh (uI (uA me 144 f) 136 13 (nI (S.2.2.1.1 + (j - i)))) 0 0 := by
          intro i
          induction i with
          | zero =>
            intro f _ hf1 hf2
            refine ld_i4 (np := 75) dX7_type_73 rfl ?_
            refine wl_if_lt (np := 78) (tg := 115) dX7_type_75 rfl rfl (fun c_75 => ?_) (fun c_75 => ?_)
            · refine ld_a0 (np := 116) dX7_type_115 rfl ?_
              refine wl_geti (np := 119) dX7_type_116 rfl fl_X7_116 (by decide) (by assumption) ?_
              refine wi_ret dX7_type_119 rfl (rfl) (Nat.le_refl _) (Nat.le_refl _) ?_
              rw [gI_uI_self]
              refine ⟨rfl, ?_⟩
              obtain ⟨y1, y2, y3, y4⟩ := hR
              refine ⟨⟨y1, ?_, ⟨gI_uI_self _ _ _ _, c_62, fun b hb => ?_⟩, y4⟩, hFs.of (RfM.of rfl), RfM.of rfl, fun a ha => (gI_uI_ne (by omega)).trans (gI_uAn (by omega))⟩
              · dsimp only
                cases hI : S.2.1 with
                | none => rw [hI] at y2; exact y2
                | some V => rw [hI] at y2; exact y2
              · rw [gI_uI_ne (by omega), gI_uAs]
                dsimp only
                by_cases hlt : b < S.2.2.1.1
                · rw [if_pos hlt, hf1 b hlt]
                  exact f3 b hlt
                · rw [if_neg hlt]
                  exact hf2 b (by omega) hb
            · exact absurd (show nI 0 - 1 < 0 by decide) c_75
          | succ i ih =>
            intro f hi hf1 hf2
            rw [nI_pred]
            refine ld_i4 (np := 75) dX7_type_73 rfl ?_
            refine wl_if_lt (np := 78) (tg := 115) dX7_type_75 rfl rfl (fun c_75 => ?_) (fun c_75 => ?_)
            · exact absurd c_75 (Int32.not_lt.mpr (nI_pos' (by omega)))
            · skip
              refine ld_a0 (np := 79) dX7_type_78 rfl ?_
              refine wl_getr (np := 82) dX7_type_79 rfl fl_X7_34 rfl (by assumption) (by assumption) ?_
              refine ld_a0 (np := 83) dX7_type_82 rfl ?_
              refine wl_geti (np := 86) dX7_type_83 rfl fl_X7_116 (by decide) (by assumption) ?_
              refine ld_l1 (np := 87) dX7_type_86 rfl ?_
              refine wl_bipush (np := 89) (v := nI 8) dX7_type_87 rfl (by decide) ?_
              refine ld_i4 (np := 91) dX7_type_89 rfl ?_
              refine wl_imul (np := 92) dX7_type_91 rfl ?_
              refine wl_lshr (np := 93) dX7_type_92 rfl ?_
              refine wl_ldc2 (np := 96) dX7_type_93 rfl wk_X7_110 ?_
              refine wl_land (np := 97) dX7_type_96 rfl ?_
              refine wl_l2i (np := 98) dX7_type_97 rfl ?_
              refine wl_iastoreN (np := 99) dX7_type_98 rfl (by exact gI_uI_self _ _ _ _) (by assumption) (by omega) (by first | decide | omega) ?_
              refine ld_a0 (np := 100) dX7_type_99 rfl ?_
              refine wl_dup (np := 101) dX7_type_100 rfl rfl ?_
              refine wl_geti (np := 104) dX7_type_101 rfl fl_X7_116 (by decide) (by assumption) ?_
              refine wl_iconst (np := 105) (v := 1) dX7_type_104 rfl (rfl) ?_
              refine wl_iadd (np := 106) dX7_type_105 rfl ?_
              refine wl_puti (np := 109) dX7_type_106 rfl fl_X7_116 nf_7_13 rfl (by assumption) ?_
              refine inc_4 (np := 112) (v := _ + (-1)) dX7_type_109 rfl rfl (by decide) rfl ?_
              refine wl_goto (tg := 73) dX7_type_112 rfl ?_
              have hmm : uI (uI (uI (uA me 144 f) 136 13 (nI (S.2.2.1.1 + (j - (i + 1))))) 144 (S.2.2.1.1 + (j - (i + 1))) (btI w (nI i))) 136 13 (nI (S.2.2.1.1 + (j - i))) = uI (uA me 144 (upF f (S.2.2.1.1 + (j - (i + 1))) (btI w (nI i)))) 136 13 (nI (S.2.2.1.1 + (j - i))) := by
                refine Prod.ext (funext fun x => funext fun y => ?_) rfl
                show gI _ x y = gI _ x y
                rw [gI_uI, gI_uI, gI_uI, gI_uI, gI_uA, gI_uA]
                by_cases h1 : x = 136 ∧ y = 13
                · rw [if_pos h1, if_pos h1]
                · rw [if_neg h1, if_neg h1, if_neg h1]
                  by_cases h2 : x = 144
                  · subst h2
                    unfold upF
                    simp
                  · rw [if_neg (fun q => h2 q.1), if_neg h2, if_neg h2]
              have e13 : ∀ v, gI (uI (uI (uA me 144 f) 136 13 (nI (S.2.2.1.1 + (j - (i + 1))))) 144 (S.2.2.1.1 + (j - (i + 1))) v) 136 13 + 1 = nI (S.2.2.1.1 + (j - i)) := fun v => by
                rw [gI_uI_ne (by omega), gI_uI_self, ← nI_succ]
                congr 1
                omega
              rw [e13]
              have hsub : nI i + -1 = nI i - 1 := (Int32.sub_eq_add_neg _ _).symm
              rw [hsub]
              have := ih (upF f (S.2.2.1.1 + (j - (i + 1))) (btI w (nI i))) (by omega) (fun b hb => by rw [upF_n (by omega)]; exact hf1 b hb) (fun b h1 h2 => by
                by_cases hb : b = S.2.2.1.1 + (j - (i + 1))
                · subst hb
                  rw [upF_s]
                  congr 2
                  omega
                · rw [upF_n hb]
                  exact hf2 b h1 (by omega))
              rw [← hmm] at this
              exact this
        refine ld_i3 (np := 69) dX7_type_68 rfl ?_
        refine wl_iconst (np := 70) (v := 1) dX7_type_69 rfl (rfl) ?_
        refine wl_isub (np := 71) dX7_type_70 rfl ?_
        refine st_i4 (np := 73) dX7_type_71 rfl (by decide) rfl ?_
        have h0 := key j (gI me 144) (Nat.le_refl _) (fun _ _ => rfl) (fun b h1 h2 => by omega)
        rw [uA_id, Nat.sub_self, Nat.add_zero, ← f1, uI_eq] at h0
        have e : uA me 136 (upF (gI me 136) 13 (gI me 136 13)) = me := by
          have : upF (gI me 136) 13 (gI me 136 13) = gI me 136 := by
            funext x
            by_cases hx : x = 13
            · subst hx; rw [upF_s]
            · rw [upF_n hx]
          rw [this, uA_id]
        rw [e] at h0
        exact h0
      · rw [f1, nI_add, nI_leI (by omega) (by decide)] at c_62
        rw [if_pos (by omega)]
        refine wl_bipush (np := 67) (v := -3) dX7_type_65 rfl (by decide) ?_
        refine wi_ret dX7_type_67 rfl (rfl) (Nat.le_refl _) (Nat.le_refl _) ?_
        exact ⟨rfl, GoodM.same hFs hR⟩
    have key0 : ∀ fuel i, j - i < fuel → i ≤ j → prnt w i → Wa mX7_type (0, fun _ => 0) d 0 0 sh.length (PI sh (fun x m => x = (cif (inR (nI j) 1 8 ∧ prnt w j) (if 80 < S.2.2.1.1 + j then (-3, S) else (nI (S.2.2.1.1 + j), (S.1, S.2.1, (S.2.2.1.1 + j, fun i => if i < S.2.2.1.1 then S.2.2.1.2 i else btI w (nI (j - 1 - (i - S.2.2.1.1)))), S.2.2.2))) (-1, S)).1 ∧ GoodM sh me m (cif (inR (nI j) 1 8 ∧ prnt w j) (if 80 < S.2.2.1.1 + j then (-3, S) else (nI (S.2.2.1.1 + j), (S.1, S.2.1, (S.2.2.1.1 + j, fun i => if i < S.2.2.1.1 then S.2.2.1.2 i else btI w (nI (j - 1 - (i - S.2.2.1.1)))), S.2.2.2))) (-1, S)).2)) 17 [.ref 136, .long w, .float 0, .int (nI j), .int (nI i)] [] sh me 0 0 := by
      intro fuel
      induction fuel with
      | zero => intro i h; omega
      | succ fuel ih =>
        intro i hi hin2 hp
        refine ld_i4 (np := 19) dX7_type_17 rfl ?_
        refine ld_i3 (np := 20) dX7_type_19 rfl ?_
        refine wl_icmp_ge (np := 23) (tg := 54) dX7_type_20 rfl rfl (fun c_20 => ?_) (fun c_20 => ?_)
        · rw [nI_le_iff (by omega) (by omega)] at c_20
          rw [show i = j by omega] at hp
          exact fin hp _ rfl
        · rw [nI_le_iff (by omega) (by omega)] at c_20
          refine ld_l1 (np := 24) dX7_type_23 rfl ?_
          refine wl_bipush (np := 26) (v := nI 8) dX7_type_24 rfl (by decide) ?_
          refine ld_i4 (np := 28) dX7_type_26 rfl ?_
          refine wl_imul (np := 29) dX7_type_28 rfl ?_
          refine wl_lshr (np := 30) dX7_type_29 rfl ?_
          refine wl_ldc2 (np := 33) dX7_type_30 rfl wk_X7_110 ?_
          refine wl_land (np := 34) dX7_type_33 rfl ?_
          refine wl_ldc2 (np := 37) dX7_type_34 rfl wk_X7_112 ?_
          refine wl_ldc2 (np := 40) dX7_type_37 rfl wk_X7_114 ?_
          refine ciS_3 (np := 43) dX7_type_40 rfl lk_X7_68 (Nat.le_of_ble_eq_true rfl) (by omega) (Nat.le_refl _) (Nat.le_refl _) (c_in64 _ _ _) (fun x_40 m_40 h_40 => ?_)
          obtain ⟨rfl, q_40⟩ := h_40
          have q_40 := q_40.symm
          subst q_40
          refine wl_if_ne (np := 46) (tg := 48) dX7_type_43 rfl rfl (fun c_43 => ?_) (fun c_43 => ?_)
          · have hz : 32 ≤ btI w (nI i) ∧ btI w (nI i) ≤ 126 := (bt64 _).mp (if1 c_43)
            refine inc_4 (np := 51) (v := _ + 1) dX7_type_48 rfl rfl (by decide) rfl ?_
            refine wl_goto (tg := 17) dX7_type_51 rfl ?_
            rw [← nI_succ]
            refine ih (i + 1) (by omega) (by omega) (fun k hk => ?_)
            rcases Nat.lt_succ_iff_lt_or_eq.mp hk with h | rfl
            · exact hp k h
            · exact hz
          · have hz : ¬ (32 ≤ btI w (nI i) ∧ btI w (nI i) ≤ 126) := fun q => if0 c_43 ((bt64 _).mpr q)
            refine wl_iconst (np := 47) (v := -1) dX7_type_46 rfl (rfl) ?_
            refine wi_ret dX7_type_47 rfl (rfl) (Nat.le_refl _) (Nat.le_refl _) ?_
            rw [cif_f (fun q => hz (q.2 i (by omega)))]
            exact ⟨rfl, GoodM.same hFs hR⟩
    refine wl_iconst (np := 15) (v := 0) dX7_type_14 rfl (rfl) ?_
    refine st_i4 (np := 17) dX7_type_15 rfl (by decide) rfl ?_
    exact key0 (j + 1) 0 (by omega) (by omega) (fun k h => by omega)
  · unfold sp_type
    rw [cif_f (fun h => if0 c_9 h.1)]
    refine wl_iconst (np := 13) (v := -1) dX7_type_12 rfl (rfl) ?_
    refine wi_ret dX7_type_13 rfl (rfl) (Nat.le_refl _) (Nat.le_refl _) ?_
    exact ⟨rfl, GoodM.same hFs hR⟩
end M11
