section M7
variable {sh : List Shp} {me : Mem} {d : Nat} {S : St}
theorem okR_of {k : Nat} {W : Wld} (h : wfW k W) (hk : k ≤ 64) {P : Prs} (hP : P ∈ W.1) : okR P := ⟨k, W.2.2.2.1, h.1 P hP, by have := h.2.1; omega⟩
theorem rep_fallM {f : Nat → Int32} {p : Nat} {P : Prs} {dd : Nat} (hq : RepQ f p P) (hdd : dd ≤ 359) (hfe : P.1.2.2.2 = -4 ∨ 0 ≤ P.1.2.2.2.toInt) : RepQ (upF (upF (upF f (40 * p) 0) (40 * p + 5) 1) (40 * p + 4) (if f (40 * p + 4) < 0 then nI dd else f (40 * p + 4))) p (fallP P (nI dd)) := by
  obtain ⟨h1, h2, h3, h4, h5, h6, h7, h8⟩ := hq
  have e : (if f (40 * p + 4) < 0 then nI dd else f (40 * p + 4)) = (if P.1.2.2.2 = -4 then nI dd else P.1.2.2.2) := by
    rw [h6]
    refine if_iff ⟨fun q => ?_, fun q => by rw [q]; decide⟩
    rcases hfe with h | h
    · exact h
    · rw [Int32.lt_iff_toInt_lt] at q
      have e0 : (0 : Int32).toInt = 0 := rfl
      omega
  rw [e]
  have hne : ¬ (if P.1.2.2.2 = -4 then nI dd else P.1.2.2.2) = -4 := by
    by_cases hf : P.1.2.2.2 = -4
    · rw [if_pos hf]
      intro q
      have q2 := congrArg Int32.toInt q
      rw [nI_toInt (by omega)] at q2
      have e4 : (-4 : Int32).toInt = -4 := rfl
      omega
    · rw [if_neg hf]; exact hf
  refine ⟨?_, ?_, ?_, ?_, h5, ?_, ?_, fun c co hc => ?_⟩
  · rw [upF_n (by omega), upF_n (by omega), upF_s]; rfl
  · rw [upF_n (by omega), upF_n (by omega), upF_n (by omega)]; exact h2
  · rw [upF_n (by omega), upF_n (by omega), upF_n (by omega)]; exact h3
  · rw [upF_n (by omega), upF_n (by omega), upF_n (by omega)]; exact h4
  · rw [upF_s]; rfl
  · rw [upF_n (by omega), upF_s]
    exact (if_neg hne).symm
  · rw [upF_n (by omega), upF_n (by omega), upF_n (by omega), upF_n (by omega), upF_n (by omega), upF_n (by omega), upF_n (by omega), upF_n (by omega), upF_n (by omega), upF_n (by omega), upF_n (by omega), upF_n (by omega)]
    exact h8 c co hc
set_option maxHeartbeats 4000000 in
set_option maxRecDepth 100000 in
theorem c_M_sleeps {A dd : Nat} {ps : List Prs} {H : Nat → Int32} (hF : FixM sh me) (gst : gR me 136 3 = some A) (xA : sh[A]? = some (.inr (0, 200))) (hA : A = 137 ∨ A = 138) (hN : RepN (gI me A) ps) (hT : RepTs (gI me 139) ps) (hn : gI me 136 0 = nI ps.length) (hH : ∀ i, i < 12 → gI me 140 i = H i) (hok : ∀ P ∈ ps, okR P) (hdd : dd ≤ 359) (hd : 2 ≤ d) : CV d mX7_sleeps sh [.ref 136, .int (nI dd)] me (fun m => ∃ f, m = uA me A f ∧ RepN f (ps.map (fun P => nightP P (H (dd / 30)) (nI dd)))) := by
  have hFs := hF
  obtain ⟨z0, ⟨x1, x2, x4, x5, x6, x10, x11, x12, x16, x17, x18, x21, x22, x24, x25, x26, x27⟩, ⟨g1, g2, g4, g5, g6, g10, g11, g12, g16, g17, g18, g21, g22, g24, g25, g26, g27⟩, gs⟩ := hF
  have hn5 := hN.1
  have get : ∀ p, p < ps.length → ∃ P, ps[p]? = some P ∧ P ∈ ps := fun p hp => ⟨_, List.getElem?_eq_getElem hp, List.getElem_mem hp⟩
  have key2 : ∀ fuel i f, ps.length - i < fuel → i ≤ ps.length → (∀ p P, ps[p]? = some P → RepQ f p (if p < i then nightP P (H (dd / 30)) (nI dd) else restP P)) → Wa mX7_sleeps (0, fun _ => 0) d 0 0 sh.length (PV sh (fun m => ∃ f, m = uA me A f ∧ RepN f (ps.map (fun P => nightP P (H (dd / 30)) (nI dd))))) 23 [.ref 136, .int (nI dd), .int (nI i)] [] sh (uA me A f) 0 0 := by
    intro fuel
    induction fuel with
    | zero => intro i f h; omega
    | succ fuel ih =>
      intro i f hf hi hr
      have hn' : gI (uA me A f) 136 0 = nI ps.length := by rw [gI_uAn (by omega)]; exact hn
      refine ld_i2 (np := 24) dX7_sleeps_23 rfl ?_
      refine ld_a0 (np := 25) dX7_sleeps_24 rfl ?_
      refine wl_geti (np := 28) dX7_sleeps_25 rfl fl_X7_64 (by decide) (by assumption) ?_
      refine wl_icmp_ge (np := 31) (tg := 108) dX7_sleeps_28 rfl rfl (fun c_28 => ?_) (fun c_28 => ?_)
      · rw [hn', nI_le_iff (by omega) (by omega)] at c_28
        refine wv_ret dX7_sleeps_108 rfl (Nat.le_refl _) (Nat.le_refl _) ?_
        refine ⟨f, rfl, by simpa using hn5, fun p P hp => ?_⟩
        rw [List.getElem?_map] at hp
        obtain ⟨P', hP', rfl⟩ := Option.map_eq_some_iff.mp hp
        have hlt := (List.getElem?_eq_some_iff.mp hP').1
        have := hr p P' hP'
        rw [if_pos (by omega)] at this
        exact this
      · rw [hn', nI_le_iff (by omega) (by omega)] at c_28
        obtain ⟨P, hPi, hPm⟩ := get i (by omega)
        have hq := hr i P hPi
        rw [if_neg (by omega)] at hq
        have hH' : ∀ j, j < 12 → gI (uA me A f) 140 j = H j := fun j hj => by rw [gI_uAn (by omega)]; exact hH j hj
        refine ld_a0 (np := 32) dX7_sleeps_31 rfl ?_
        refine ld_i2 (np := 33) dX7_sleeps_32 rfl ?_
        refine ld_i1 (np := 34) dX7_sleeps_33 rfl ?_
        refine ciV_2 (np := 37) dX7_sleeps_34 rfl lk_X7_162 (by assumption) (Nat.le_of_ble_eq_true rfl) (by omega) (Nat.le_refl _) (Nat.le_refl _) (c_M_isTooHot (A := A) (P := restP P) z0 gst xA g5 x5 (by rw [gI_uAs]; exact hq) hH' (by omega) hdd (by omega)) (fun x_34 m_34 h_34 => ?_)
        obtain ⟨h34, q34⟩ := h_34
        have q34 := q34.symm
        subst q34
        have hfr : ∀ g : Nat → Int32, (∀ j, ¬ (40 * i ≤ j ∧ j < 40 * i + 40) → g j = f j) → RepQ g i (nightP P (H (dd / 30)) (nI dd)) → ∀ p P, ps[p]? = some P → RepQ g p (if p < i + 1 then nightP P (H (dd / 30)) (nI dd) else restP P) := by
          intro g hg1 hg2 p P' hp
          by_cases hpi : p = i
          · subst hpi
            rw [hPi] at hp
            cases hp
            rw [if_pos (by omega)]
            exact hg2
          · have := (hr p P' hp).fr (N' := g) (fun j h1 h2 => hg1 j (by omega))
            by_cases hlt : p < i
            · rw [if_pos hlt] at this
              rw [if_pos (by omega)]
              exact this
            · rw [if_neg hlt] at this
              rw [if_neg (by omega)]
              exact this
        refine wl_if_eq (np := 40) (tg := 102) dX7_sleeps_37 rfl rfl (fun c_37 => ?_) (fun c_37 => ?_)
        · refine inc_2 (np := 105) (v := _ + 1) dX7_sleeps_102 rfl rfl (by decide) rfl ?_
          refine wl_goto (tg := 23) dX7_sleeps_105 rfl ?_
          rw [← nI_succ]
          refine ih (i + 1) f (by omega) (by omega) (hfr f (fun _ _ => rfl) ?_)
          have hno := or0 h34 c_37
          unfold nightP
          unfold hotS at hno
          rw [if_neg hno]
          exact hq
        · have hyes := or1 h34 c_37
          refine ld_a0 (np := 41) dX7_sleeps_40 rfl ?_
          refine wl_getr (np := 44) dX7_sleeps_41 rfl fl_X7_16 rfl (by assumption) (by assumption) ?_
          refine wl_bipush (np := 46) (v := nI 40) dX7_sleeps_44 rfl (by decide) ?_
          refine ld_i2 (np := 47) dX7_sleeps_46 rfl ?_
          refine wl_imul (np := 48) dX7_sleeps_47 rfl ?_
          refine wl_iconst (np := 49) (v := 0) dX7_sleeps_48 rfl (rfl) ?_
          refine wl_iastoreN (np := 50) dX7_sleeps_49 rfl (by first | (simp only [nIm, nIa, ← nI_succ]; exact rfl) | exact nI_z | exact nI_o | exact rfl) (by assumption) (by omega) (by decide) ?_
          refine ld_a0 (np := 51) dX7_sleeps_50 rfl ?_
          refine wl_getr (np := 54) dX7_sleeps_51 rfl fl_X7_16 rfl (by assumption) (by assumption) ?_
          refine wl_bipush (np := 56) (v := nI 40) dX7_sleeps_54 rfl (by decide) ?_
          refine ld_i2 (np := 57) dX7_sleeps_56 rfl ?_
          refine wl_imul (np := 58) dX7_sleeps_57 rfl ?_
          refine wl_iconst (np := 59) (v := nI 5) dX7_sleeps_58 rfl (rfl) ?_
          refine wl_iadd (np := 60) dX7_sleeps_59 rfl ?_
          refine wl_iconst (np := 61) (v := 1) dX7_sleeps_60 rfl (rfl) ?_
          refine wl_iastoreN (np := 62) dX7_sleeps_61 rfl (by first | (simp only [nIm, nIa, ← nI_succ]; exact rfl) | exact nI_z | exact nI_o | exact rfl) (by assumption) (by omega) (by decide) ?_
          refine ld_a0 (np := 63) dX7_sleeps_62 rfl ?_
          refine wl_getr (np := 66) dX7_sleeps_63 rfl fl_X7_16 rfl (by assumption) (by assumption) ?_
          refine wl_bipush (np := 68) (v := nI 40) dX7_sleeps_66 rfl (by decide) ?_
          refine ld_i2 (np := 69) dX7_sleeps_68 rfl ?_
          refine wl_imul (np := 70) dX7_sleeps_69 rfl ?_
          refine wl_iconst (np := 71) (v := nI 4) dX7_sleeps_70 rfl (rfl) ?_
          refine wl_iadd (np := 72) dX7_sleeps_71 rfl ?_
          refine ld_a0 (np := 73) dX7_sleeps_72 rfl ?_
          refine wl_getr (np := 76) dX7_sleeps_73 rfl fl_X7_16 rfl (by assumption) (by assumption) ?_
          refine wl_bipush (np := 78) (v := nI 40) dX7_sleeps_76 rfl (by decide) ?_
          refine ld_i2 (np := 79) dX7_sleeps_78 rfl ?_
          refine wl_imul (np := 80) dX7_sleeps_79 rfl ?_
          refine wl_iconst (np := 81) (v := nI 4) dX7_sleeps_80 rfl (rfl) ?_
          refine wl_iadd (np := 82) dX7_sleeps_81 rfl ?_
          refine wl_ialoadN (np := 83) dX7_sleeps_82 rfl (by first | (simp only [nIm, nIa, ← nI_succ]; exact rfl) | exact nI_z | exact nI_o | exact rfl) (by assumption) (by omega) (by decide) ?_
          refine wl_if_ge (np := 86) (tg := 90) dX7_sleeps_83 rfl rfl (fun c_83 => ?_) (fun c_83 => ?_)
          · rw [uI_uA, uI_uA, gI_uAs, upF_n (by omega), upF_n (by omega)] at c_83
            refine ld_a0 (np := 91) dX7_sleeps_90 rfl ?_
            refine wl_getr (np := 94) dX7_sleeps_91 rfl fl_X7_16 rfl (by assumption) (by assumption) ?_
            refine wl_bipush (np := 96) (v := nI 40) dX7_sleeps_94 rfl (by decide) ?_
            refine ld_i2 (np := 97) dX7_sleeps_96 rfl ?_
            refine wl_imul (np := 98) dX7_sleeps_97 rfl ?_
            refine wl_iconst (np := 99) (v := nI 4) dX7_sleeps_98 rfl (rfl) ?_
            refine wl_iadd (np := 100) dX7_sleeps_99 rfl ?_
            refine wl_ialoadN (np := 101) dX7_sleeps_100 rfl (by first | (simp only [nIm, nIa, ← nI_succ]; exact rfl) | exact nI_z | exact nI_o | exact rfl) (by assumption) (by omega) (by decide) ?_
            rw [uI_uA, uI_uA, gI_uAs, upF_n (by omega), upF_n (by omega)]
            refine wl_iastoreN (np := 102) dX7_sleeps_101 rfl (by first | (simp only [nIm, nIa, ← nI_succ]; exact rfl) | exact nI_z | exact nI_o | exact rfl) (by assumption) (by omega) (by decide) ?_
            refine inc_2 (np := 105) (v := _ + 1) dX7_sleeps_102 rfl rfl (by decide) rfl ?_
            refine wl_goto (tg := 23) dX7_sleeps_105 rfl ?_
            rw [uI_uA, ← nI_succ]
            refine ih (i + 1) _ (by omega) (by omega) (hfr _ (fun j hj => ?_) ?_)
            · rw [upF_n (by omega), upF_n (by omega), upF_n (by omega)]
            · have hrf := rep_fallM (dd := dd) hq hdd (by
                obtain ⟨a, b, ho, -⟩ := hok P hPm
                exact ho.2.2.1)
              rw [if_neg (Int32.not_lt.mpr c_83)] at hrf
              unfold nightP
              unfold hotS at hyes
              rw [if_pos hyes]
              exact hrf
          · rw [uI_uA, uI_uA, gI_uAs, upF_n (by omega), upF_n (by omega)] at c_83
            refine ld_i1 (np := 87) dX7_sleeps_86 rfl ?_
            refine wl_goto (tg := 101) dX7_sleeps_87 rfl ?_
            rw [uI_uA, uI_uA]
            refine wl_iastoreN (np := 102) dX7_sleeps_101 rfl (by first | (simp only [nIm, nIa, ← nI_succ]; exact rfl) | exact nI_z | exact nI_o | exact rfl) (by assumption) (by omega) (by decide) ?_
            refine inc_2 (np := 105) (v := _ + 1) dX7_sleeps_102 rfl rfl (by decide) rfl ?_
            refine wl_goto (tg := 23) dX7_sleeps_105 rfl ?_
            rw [uI_uA, ← nI_succ]
            refine ih (i + 1) _ (by omega) (by omega) (hfr _ (fun j hj => ?_) ?_)
            · rw [upF_n (by omega), upF_n (by omega), upF_n (by omega)]
            · have hrf := rep_fallM (dd := dd) hq hdd (by
                obtain ⟨a, b, ho, -⟩ := hok P hPm
                exact ho.2.2.1)
              rw [if_pos (Int32.not_le.mp c_83)] at hrf
              unfold nightP
              unfold hotS at hyes
              rw [if_pos hyes]
              exact hrf
  have key1 : ∀ fuel i f, ps.length - i < fuel → i ≤ ps.length → (∀ p P, ps[p]? = some P → RepQ f p (if p < i then restP P else P)) → Wa mX7_sleeps (0, fun _ => 0) d 0 0 sh.length (PV sh (fun m => ∃ f, m = uA me A f ∧ RepN f (ps.map (fun P => nightP P (H (dd / 30)) (nI dd))))) 2 [.ref 136, .int (nI dd), .int (nI i)] [] sh (uA me A f) 0 0 := by
    intro fuel
    induction fuel with
    | zero => intro i f h; omega
    | succ fuel ih =>
      intro i f hf hi hr
      have hn' : gI (uA me A f) 136 0 = nI ps.length := by rw [gI_uAn (by omega)]; exact hn
      refine ld_i2 (np := 3) dX7_sleeps_2 rfl ?_
      refine ld_a0 (np := 4) dX7_sleeps_3 rfl ?_
      refine wl_geti (np := 7) dX7_sleeps_4 rfl fl_X7_64 (by decide) (by assumption) ?_
      refine wl_icmp_ge (np := 10) (tg := 21) dX7_sleeps_7 rfl rfl (fun c_7 => ?_) (fun c_7 => ?_)
      · rw [hn', nI_le_iff (by omega) (by omega)] at c_7
        refine wl_iconst (np := 22) (v := 0) dX7_sleeps_21 rfl (rfl) ?_
        refine st_i2 (np := 23) dX7_sleeps_22 rfl (by decide) rfl ?_
        refine key2 (ps.length + 1) 0 f (by omega) (by omega) (fun p P hp => ?_)
        have hlt := (List.getElem?_eq_some_iff.mp hp).1
        have := hr p P hp
        rw [if_pos (by omega)] at this
        rw [if_neg (by omega)]
        exact this
      · rw [hn', nI_le_iff (by omega) (by omega)] at c_7
        obtain ⟨P, hPi, hPm⟩ := get i (by omega)
        have hq := hr i P hPi
        rw [if_neg (by omega)] at hq
        refine ld_a0 (np := 11) dX7_sleeps_10 rfl ?_
        refine ld_i2 (np := 12) dX7_sleeps_11 rfl ?_
        refine cvV_1 (np := 15) dX7_sleeps_12 rfl lk_X7_158 (by assumption) (Nat.le_of_ble_eq_true rfl) (by omega) (Nat.le_refl _) (Nat.le_refl _) (c_M_rests (A := A) (P := P) z0 gst xA g4 x4 hA (by rw [gI_uAs]; exact hq) (by rw [gI_uAn (by omega)]; exact hT i P hPi) (by omega) (hok P hPm) (by omega)) (fun m_12 h_12 => ?_)
        obtain ⟨g, rfl, hg1, hg2⟩ := h_12
        rw [uA_uA]
        rw [gI_uAs] at hg1
        refine inc_2 (np := 18) (v := _ + 1) dX7_sleeps_15 rfl rfl (by decide) rfl ?_
        refine wl_goto (tg := 2) dX7_sleeps_18 rfl ?_
        rw [← nI_succ]
        refine ih (i + 1) g (by omega) (by omega) (fun p P' hp => ?_)
        by_cases hpi : p = i
        · subst hpi
          rw [hPi] at hp
          cases hp
          rw [if_pos (by omega)]
          exact hg2
        · have := (hr p P' hp).fr (N' := g) (fun j h1 h2 => hg1 j (by omega))
          by_cases hlt : p < i
          · rw [if_pos hlt] at this
            rw [if_pos (by omega)]
            exact this
          · rw [if_neg hlt] at this
            rw [if_neg (by omega)]
            exact this
  refine CV.mk (L := [.ref 136, .int (nI dd), .float 0]) (by decide) (Nat.le_of_ble_eq_true rfl) rfl ?_
  refine wl_iconst (np := 1) (v := 0) dX7_sleeps_0 rfl (rfl) ?_
  refine st_i2 (np := 2) dX7_sleeps_1 rfl (by decide) rfl ?_
  have h0 := key1 (ps.length + 1) 0 (gI me A) (by omega) (by omega) (fun p P hp => by rw [if_neg (by omega)]; exact hN.2 p P hp)
  rw [uA_id] at h0
  exact h0
end M7
