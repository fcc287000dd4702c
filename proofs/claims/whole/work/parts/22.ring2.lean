/-! the best ring: over twos, then over threes, in their order -/
def st2 (ps : List Prs) (a b : Nat) (B : Bst) : Bst := match ps[a]?, ps[b]? with
  | some P, some P2 => keepS B (sav2 P P2) 2 (nI a) (nI b) (-1)
  | _, _ => B
def st3 (ps : List Prs) (a b c : Nat) (B : Bst) : Bst := match ps[a]?, ps[b]?, ps[c]? with
  | some P, some P2, some P3 => keepS B (sav3 P P2 P3) 3 (nI a) (nI b) (nI c)
  | _, _, _ => B
def in2 (ps : List Prs) (a : Nat) : Nat → Nat → Bst → Bst
  | 0, _, B => B
  | k + 1, b, B => in2 ps a k (b + 1) (st2 ps a b B)
def ou2 (ps : List Prs) : Nat → Nat → Bst → Bst
  | 0, _, B => B
  | k + 1, a, B => ou2 ps k (a + 1) (in2 ps a k (a + 1) B)
def in3 (ps : List Prs) (a b : Nat) : Nat → Nat → Bst → Bst
  | 0, _, B => B
  | k + 1, c, B => in3 ps a b k (c + 1) (if c = b then B else st3 ps a b c B)
def mi3 (ps : List Prs) (a K : Nat) : Nat → Nat → Bst → Bst
  | 0, _, B => B
  | k + 1, b, B => mi3 ps a K k (b + 1) (in3 ps a b K (a + 1) B)
def ou3 (ps : List Prs) : Nat → Nat → Bst → Bst
  | 0, _, B => B
  | k + 1, a, B => ou3 ps k (a + 1) (mi3 ps a k k (a + 1) B)
def bestB (ps : List Prs) : Bst := ou3 ps ps.length 0 (ou2 ps ps.length 0 (0, 0, 0, 0, 0))
section RING2
variable {sh : List Shp} {me : Mem} {d r w : Nat} {W : Wld}
set_option maxHeartbeats 4000000 in
set_option maxRecDepth 100000 in
theorem c_findThirds {a b : Nat} {B : Bst} (hr : isB sh me r) (hw : isW sh me w) (hrW : RepW me w W) (hlen : lenW W) (hB : RepB me r B) (hrw : w + 35 ≤ r) (ha : a < W.1.length) (hb : b < W.1.length) (hd : 2 ≤ d) : CV d mX0_findThirds sh [.ref r, .ref w, .int (nI a), .int (nI b)] me (fun m => RepB m r (in3 W.1 a b (W.1.length - (a + 1)) (a + 1) B) ∧ Onl me m r (r + 2)) := by
  have hrs := hr
  have hws := hw
  obtain ⟨z0, z1, zr⟩ := hr
  obtain ⟨s0, s1, s2, s3, s4, r0, r1, r2, r3, hP⟩ := hw
  have hn5 := hrW.1.1
  have key : ∀ fuel c (m : Mem) (B' : Bst), W.1.length - c < fuel → a + 1 ≤ c → c ≤ W.1.length → Onl me m r (r + 2) → RepB m r B' → in3 W.1 a b (W.1.length - c) c B' = in3 W.1 a b (W.1.length - (a + 1)) (a + 1) B →
      Wa mX0_findThirds (0, fun _ => 0) d 0 0 sh.length (PV sh (fun m => RepB m r (in3 W.1 a b (W.1.length - (a + 1)) (a + 1) B) ∧ Onl me m r (r + 2))) 5 [.ref r, .ref w, .int (nI a), .int (nI b), .int (nI c)] [] sh m 0 0 := by
    intro fuel
    induction fuel with
    | zero => intro c m B' h; omega
    | succ fuel ih =>
      intro c m B' hc hac hcn hO hB' hin
      obtain ⟨I1, R1⟩ := m
      obtain rfl : R1 = me.2 := hO.1
      have hrW1 : RepW (I1, me.2) w W := hrW.fr (fun x h1 h2 => hO.2 x (by omega))
      have hn := hrW1.2.1
      refine ld_i4 (np := 7) dX0_findThirds_5 rfl ?_
      refine ld_a1 (np := 8) dX0_findThirds_7 rfl ?_
      refine wl_geti (np := 11) dX0_findThirds_8 rfl fl_X0_20 (by decide) (by assumption) ?_
      refine wl_icmp_ge (np := 14) (tg := 57) dX0_findThirds_11 rfl rfl (fun c_11 => ?_) (fun c_11 => ?_)
      · rw [hn, nI_le_iff (by omega) (by omega)] at c_11
        refine wv_ret dX0_findThirds_57 rfl (Nat.le_refl _) (Nat.le_refl _) ?_
        rw [show W.1.length - c = 0 by omega] at hin
        rw [← hin]
        exact ⟨hB', hO⟩
      · rw [hn, nI_le_iff (by omega) (by omega)] at c_11
        have hstep : in3 W.1 a b (W.1.length - c) c B' = in3 W.1 a b (W.1.length - (c + 1)) (c + 1) (if c = b then B' else st3 W.1 a b c B') := by
          rw [show W.1.length - c = (W.1.length - (c + 1)) + 1 by omega]; rfl
        rw [hstep] at hin
        refine ld_i4 (np := 16) dX0_findThirds_14 rfl ?_
        refine ld_i3 (np := 17) dX0_findThirds_16 rfl ?_
        refine wl_icmp_eq (np := 20) (tg := 51) dX0_findThirds_17 rfl rfl (fun c_17 => ?_) (fun c_17 => ?_)
        · rw [nI_eq (by omega) (by omega)] at c_17
          rw [if_pos c_17] at hin
          refine inc_4 (np := 54) (v := _ + 1) dX0_findThirds_51 rfl rfl (by decide) rfl ?_
          refine wl_goto (tg := 5) dX0_findThirds_54 rfl ?_
          rw [← nI_succ]
          exact ih (c + 1) _ B' (by omega) (by omega) (by omega) hO hB' hin
        · rw [nI_eq (by omega) (by omega)] at c_17
          rw [if_neg c_17] at hin
          obtain ⟨a1, a2⟩ := hP a (by omega)
          obtain ⟨b1, b2⟩ := hP b (by omega)
          obtain ⟨e1, e2⟩ := hP c (by omega)
          obtain ⟨Pa, hPa⟩ : ∃ P, W.1[a]? = some P := ⟨_, List.getElem?_eq_getElem ha⟩
          obtain ⟨Pb, hPb⟩ : ∃ P, W.1[b]? = some P := ⟨_, List.getElem?_eq_getElem hb⟩
          obtain ⟨Pc, hPc⟩ : ∃ P, W.1[c]? = some P := ⟨_, List.getElem?_eq_getElem (by omega)⟩
          refine ld_a0 (np := 21) dX0_findThirds_20 rfl ?_
          refine ld_a1 (np := 22) dX0_findThirds_21 rfl ?_
          refine wl_getr (np := 25) dX0_findThirds_22 rfl fl_X0_25 rfl (by assumption) (by first | assumption | (rw [nI_clamp (by omega)]; assumption)) ?_
          refine ld_i2 (np := 26) dX0_findThirds_25 rfl ?_
          refine wl_aaload (np := 27) dX0_findThirds_26 rfl (by assumption) (by decide) (vp_in_nI (by omega) (by decide)) (by first | assumption | (rw [nI_clamp (by omega)]; assumption)) ?_
          refine ld_a1 (np := 28) dX0_findThirds_27 rfl ?_
          refine wl_getr (np := 31) dX0_findThirds_28 rfl fl_X0_25 rfl (by assumption) (by first | assumption | (rw [nI_clamp (by omega)]; assumption)) ?_
          refine ld_i3 (np := 32) dX0_findThirds_31 rfl ?_
          refine wl_aaload (np := 33) dX0_findThirds_32 rfl (by assumption) (by decide) (vp_in_nI (by omega) (by decide)) (by first | assumption | (rw [nI_clamp (by omega)]; assumption)) ?_
          refine ld_a1 (np := 34) dX0_findThirds_33 rfl ?_
          refine wl_getr (np := 37) dX0_findThirds_34 rfl fl_X0_25 rfl (by assumption) (by first | assumption | (rw [nI_clamp (by omega)]; assumption)) ?_
          refine ld_i4 (np := 39) dX0_findThirds_37 rfl ?_
          refine wl_aaload (np := 40) dX0_findThirds_39 rfl (by assumption) (by decide) (vp_in_nI (by omega) (by decide)) (by first | assumption | (rw [nI_clamp (by omega)]; assumption)) ?_
          refine ciS_3 (np := 43) dX0_findThirds_40 rfl lk_X0_29 (Nat.le_of_ble_eq_true rfl) (by omega) (Nat.le_refl _) (Nat.le_refl _) (c_savedBy3 (a2.of rfl) (b2.of rfl) (e2.of rfl) (hrW1.1.2 a Pa hPa) (hrW1.1.2 b Pb hPb) (hrW1.1.2 c Pc hPc) (hlen Pa (mem_of_get hPa)) (hlen Pb (mem_of_get hPb)) (hlen Pc (mem_of_get hPc)) (by omega)) (fun x_40 m_40 h_40 => ?_)
          obtain ⟨rfl, q_40⟩ := h_40
          have q_40 := q_40.symm
          subst q_40
          refine wl_iconst (np := 44) (v := 3) dX0_findThirds_43 rfl (rfl) ?_
          refine ld_i2 (np := 45) dX0_findThirds_44 rfl ?_
          refine ld_i3 (np := 46) dX0_findThirds_45 rfl ?_
          refine ld_i4 (np := 48) dX0_findThirds_46 rfl ?_
          refine cvV_5 (np := 51) dX0_findThirds_48 rfl lk_X0_33 (by assumption) (Nat.le_of_ble_eq_true rfl) (by omega) (Nat.le_refl _) (Nat.le_refl _) (c_B_keep _ _ _ _ _ (hrs.of rfl)) (fun m_48 h_48 => ?_)
          have q_48 := h_48.symm
          subst q_48
          refine inc_4 (np := 54) (v := _ + 1) dX0_findThirds_51 rfl rfl (by decide) rfl ?_
          refine wl_goto (tg := 5) dX0_findThirds_54 rfl ?_
          rw [← nI_succ]
          have ho := onl_keep (I1, me.2) r (sav3 Pa Pb Pc) 3 (nI a) (nI b) (nI c)
          refine ih (c + 1) _ _ (by omega) (by omega) (by omega) (hO.tr ho) (rep_keep hB' _ _ _ _ _) ?_
          have es : st3 W.1 a b c B' = keepS B' (sav3 Pa Pb Pc) 3 (nI a) (nI b) (nI c) := by unfold st3; rw [hPa, hPb, hPc]
          rw [← es]
          exact hin
  refine CV.mk (L := [.ref r, .ref w, .int (nI a), .int (nI b), .float 0]) (by decide) (Nat.le_of_ble_eq_true rfl) rfl ?_
  refine ld_i2 (np := 1) dX0_findThirds_0 rfl ?_
  refine wl_iconst (np := 2) (v := 1) dX0_findThirds_1 rfl (rfl) ?_
  refine wl_iadd (np := 3) dX0_findThirds_2 rfl ?_
  refine st_i4 (np := 5) dX0_findThirds_3 rfl (by decide) rfl ?_
  rw [← nI_succ]
  exact key (W.1.length + 1) (a + 1) me B (by omega) (by omega) (by omega) Onl.rf hB rfl
set_option maxHeartbeats 4000000 in
set_option maxRecDepth 100000 in
theorem c_find (hr : isB sh me r) (hw : isW sh me w) (hrW : RepW me w W) (hlen : lenW W) (hrw : w + 35 ≤ r) (hd : 3 ≤ d) : CV d mX0_find sh [.ref r, .ref w] me (fun m => RepB m r (bestB W.1) ∧ Onl me m r (r + 2)) := by
  have hrs := hr
  have hws := hw
  obtain ⟨z0, z1, zr⟩ := hr
  obtain ⟨s0, s1, s2, s3, s4, r0, r1, r2, r3, hP⟩ := hw
  have hn5 := hrW.1.1
  have key4 : ∀ fuel a b (m : Mem) (B' : Bst), W.1.length - b < fuel → a < W.1.length → a + 1 ≤ b → b ≤ W.1.length → Onl me m r (r + 2) → RepB m r B' → ou3 W.1 (W.1.length - (a + 1)) (a + 1) (mi3 W.1 a (W.1.length - (a + 1)) (W.1.length - b) b B') = bestB W.1 →
      (∀ (m : Mem) (B' : Bst), Onl me m r (r + 2) → RepB m r B' → ou3 W.1 (W.1.length - (a + 1)) (a + 1) B' = bestB W.1 → Wa mX0_find (0, fun _ => 0) d 0 0 sh.length (PV sh (fun m => RepB m r (bestB W.1) ∧ Onl me m r (r + 2))) 103 [.ref r, .ref w, .int (nI a), .int (nI W.1.length)] [] sh m 0 0) →
      Wa mX0_find (0, fun _ => 0) d 0 0 sh.length (PV sh (fun m => RepB m r (bestB W.1) ∧ Onl me m r (r + 2))) 82 [.ref r, .ref w, .int (nI a), .int (nI b)] [] sh m 0 0 := by
    intro fuel
    induction fuel with
    | zero => intro a b m B' h; omega
    | succ fuel ih =>
      intro a b m B' hf ha hab hbn hO hB' hin kk
      obtain ⟨I1, R1⟩ := m
      obtain rfl : R1 = me.2 := hO.1
      have hrW1 : RepW (I1, me.2) w W := hrW.fr (fun x h1 h2 => hO.2 x (by omega))
      have hn := hrW1.2.1
      refine ld_i3 (np := 83) dX0_find_82 rfl ?_
      refine ld_a1 (np := 84) dX0_find_83 rfl ?_
      refine wl_geti (np := 87) dX0_find_84 rfl fl_X0_20 (by decide) (by assumption) ?_
      refine wl_icmp_ge (np := 90) (tg := 103) dX0_find_87 rfl rfl (fun c_87 => ?_) (fun c_87 => ?_)
      · rw [hn, nI_le_iff (by omega) (by omega)] at c_87
        have hbe : b = W.1.length := by omega
        subst hbe
        rw [Nat.sub_self] at hin
        exact kk _ B' hO hB' hin
      · rw [hn, nI_le_iff (by omega) (by omega)] at c_87
        refine ld_a0 (np := 91) dX0_find_90 rfl ?_
        refine ld_a1 (np := 92) dX0_find_91 rfl ?_
        refine ld_i2 (np := 93) dX0_find_92 rfl ?_
        refine ld_i3 (np := 94) dX0_find_93 rfl ?_
        refine cvV_3 (np := 97) dX0_find_94 rfl lk_X0_37 (by assumption) (Nat.le_of_ble_eq_true rfl) (by omega) (Nat.le_refl _) (Nat.le_refl _) (c_findThirds (hrs.of rfl) (hws.of rfl) hrW1 hlen hB' hrw ha (by omega) (by omega)) (fun m_94 h_94 => ?_)
        obtain ⟨h1, h2⟩ := h_94
        refine inc_3 (np := 100) (v := _ + 1) dX0_find_97 rfl rfl (by decide) rfl ?_
        refine wl_goto (tg := 82) dX0_find_100 rfl ?_
        rw [← nI_succ]
        refine ih a (b + 1) m_94 _ (by omega) ha (by omega) (by omega) (hO.tr h2) h1 ?_ kk
        rw [← hin, show W.1.length - b = (W.1.length - (b + 1)) + 1 by omega]
        rfl
  have key3 : ∀ fuel a (x3 : Value) (m : Mem) (B' : Bst), W.1.length - a < fuel → a ≤ W.1.length → Onl me m r (r + 2) → RepB m r B' → ou3 W.1 (W.1.length - a) a B' = bestB W.1 →
      Wa mX0_find (0, fun _ => 0) d 0 0 sh.length (PV sh (fun m => RepB m r (bestB W.1) ∧ Onl me m r (r + 2))) 70 [.ref r, .ref w, .int (nI a), x3] [] sh m 0 0 := by
    intro fuel
    induction fuel with
    | zero => intro a x3 m B' h; omega
    | succ fuel ih =>
      intro a x3 m B' hf ha hO hB' hin
      obtain ⟨I1, R1⟩ := m
      obtain rfl : R1 = me.2 := hO.1
      have hrW1 : RepW (I1, me.2) w W := hrW.fr (fun x h1 h2 => hO.2 x (by omega))
      have hn := hrW1.2.1
      refine ld_i2 (np := 71) dX0_find_70 rfl ?_
      refine ld_a1 (np := 72) dX0_find_71 rfl ?_
      refine wl_geti (np := 75) dX0_find_72 rfl fl_X0_20 (by decide) (by assumption) ?_
      refine wl_icmp_ge (np := 78) (tg := 109) dX0_find_75 rfl rfl (fun c_75 => ?_) (fun c_75 => ?_)
      · rw [hn, nI_le_iff (by omega) (by omega)] at c_75
        refine wv_ret dX0_find_109 rfl (Nat.le_refl _) (Nat.le_refl _) ?_
        rw [show W.1.length - a = 0 by omega] at hin
        rw [← hin]
        exact ⟨hB', hO⟩
      · rw [hn, nI_le_iff (by omega) (by omega)] at c_75
        refine ld_i2 (np := 79) dX0_find_78 rfl ?_
        refine wl_iconst (np := 80) (v := 1) dX0_find_79 rfl (rfl) ?_
        refine wl_iadd (np := 81) dX0_find_80 rfl ?_
        refine st_i3 (np := 82) dX0_find_81 rfl (by decide) rfl ?_
        rw [← nI_succ]
        refine key4 (W.1.length + 1) a (a + 1) _ B' (by omega) (by omega) (by omega) (by omega) hO hB' ?_ (fun m2 B2 hO2 hB2 hin2 => ?_)
        · rw [← hin, show W.1.length - a = (W.1.length - (a + 1)) + 1 by omega]; rfl
        · refine inc_2 (np := 106) (v := _ + 1) dX0_find_103 rfl rfl (by decide) rfl ?_
          refine wl_goto (tg := 70) dX0_find_106 rfl ?_
          rw [← nI_succ]
          exact ih (a + 1) _ m2 B2 (by omega) (by omega) hO2 hB2 hin2
  have key2 : ∀ fuel a b (m : Mem) (B' : Bst), W.1.length - b < fuel → a < W.1.length → a + 1 ≤ b → b ≤ W.1.length → Onl me m r (r + 2) → RepB m r B' → ou3 W.1 W.1.length 0 (ou2 W.1 (W.1.length - (a + 1)) (a + 1) (in2 W.1 a (W.1.length - b) b B')) = bestB W.1 →
      (∀ (m : Mem) (B' : Bst), Onl me m r (r + 2) → RepB m r B' → ou3 W.1 W.1.length 0 (ou2 W.1 (W.1.length - (a + 1)) (a + 1) B') = bestB W.1 → Wa mX0_find (0, fun _ => 0) d 0 0 sh.length (PV sh (fun m => RepB m r (bestB W.1) ∧ Onl me m r (r + 2))) 62 [.ref r, .ref w, .int (nI a), .int (nI W.1.length)] [] sh m 0 0) →
      Wa mX0_find (0, fun _ => 0) d 0 0 sh.length (PV sh (fun m => RepB m r (bestB W.1) ∧ Onl me m r (r + 2))) 24 [.ref r, .ref w, .int (nI a), .int (nI b)] [] sh m 0 0 := by
    intro fuel
    induction fuel with
    | zero => intro a b m B' h; omega
    | succ fuel ih =>
      intro a b m B' hf ha hab hbn hO hB' hin kk
      obtain ⟨I1, R1⟩ := m
      obtain rfl : R1 = me.2 := hO.1
      have hrW1 : RepW (I1, me.2) w W := hrW.fr (fun x h1 h2 => hO.2 x (by omega))
      have hn := hrW1.2.1
      refine ld_i3 (np := 25) dX0_find_24 rfl ?_
      refine ld_a1 (np := 26) dX0_find_25 rfl ?_
      refine wl_geti (np := 29) dX0_find_26 rfl fl_X0_20 (by decide) (by assumption) ?_
      refine wl_icmp_ge (np := 32) (tg := 62) dX0_find_29 rfl rfl (fun c_29 => ?_) (fun c_29 => ?_)
      · rw [hn, nI_le_iff (by omega) (by omega)] at c_29
        have hbe : b = W.1.length := by omega
        subst hbe
        rw [Nat.sub_self] at hin
        exact kk _ B' hO hB' hin
      · rw [hn, nI_le_iff (by omega) (by omega)] at c_29
        obtain ⟨a1, a2⟩ := hP a (by omega)
        obtain ⟨b1, b2⟩ := hP b (by omega)
        obtain ⟨Pa, hPa⟩ : ∃ P, W.1[a]? = some P := ⟨_, List.getElem?_eq_getElem ha⟩
        obtain ⟨Pb, hPb⟩ : ∃ P, W.1[b]? = some P := ⟨_, List.getElem?_eq_getElem (by omega)⟩
        refine ld_a0 (np := 33) dX0_find_32 rfl ?_
        refine ld_a1 (np := 34) dX0_find_33 rfl ?_
        refine wl_getr (np := 37) dX0_find_34 rfl fl_X0_25 rfl (by assumption) (by first | assumption | (rw [nI_clamp (by omega)]; assumption)) ?_
        refine ld_i2 (np := 38) dX0_find_37 rfl ?_
        refine wl_aaload (np := 39) dX0_find_38 rfl (by assumption) (by decide) (vp_in_nI (by omega) (by decide)) (by first | assumption | (rw [nI_clamp (by omega)]; assumption)) ?_
        refine ld_a1 (np := 40) dX0_find_39 rfl ?_
        refine wl_getr (np := 43) dX0_find_40 rfl fl_X0_25 rfl (by assumption) (by first | assumption | (rw [nI_clamp (by omega)]; assumption)) ?_
        refine ld_i3 (np := 44) dX0_find_43 rfl ?_
        refine wl_aaload (np := 45) dX0_find_44 rfl (by assumption) (by decide) (vp_in_nI (by omega) (by decide)) (by first | assumption | (rw [nI_clamp (by omega)]; assumption)) ?_
        refine wl_null (np := 46) dX0_find_45 rfl ?_
        refine ciS_3 (np := 49) dX0_find_46 rfl lk_X0_29 (Nat.le_of_ble_eq_true rfl) (by omega) (Nat.le_refl _) (Nat.le_refl _) (c_savedBy2 (a2.of rfl) (b2.of rfl) (hrW1.1.2 a Pa hPa) (hrW1.1.2 b Pb hPb) (hlen Pa (mem_of_get hPa)) (hlen Pb (mem_of_get hPb)) (by omega)) (fun x_46 m_46 h_46 => ?_)
        obtain ⟨rfl, q_46⟩ := h_46
        have q_46 := q_46.symm
        subst q_46
        refine wl_iconst (np := 50) (v := 2) dX0_find_49 rfl (rfl) ?_
        refine ld_i2 (np := 51) dX0_find_50 rfl ?_
        refine ld_i3 (np := 52) dX0_find_51 rfl ?_
        refine wl_iconst (np := 53) (v := -1) dX0_find_52 rfl (rfl) ?_
        refine cvV_5 (np := 56) dX0_find_53 rfl lk_X0_33 (by assumption) (Nat.le_of_ble_eq_true rfl) (by omega) (Nat.le_refl _) (Nat.le_refl _) (c_B_keep _ _ _ _ _ (hrs.of rfl)) (fun m_53 h_53 => ?_)
        have q_53 := h_53.symm
        subst q_53
        refine inc_3 (np := 59) (v := _ + 1) dX0_find_56 rfl rfl (by decide) rfl ?_
        refine wl_goto (tg := 24) dX0_find_59 rfl ?_
        rw [← nI_succ]
        have ho := onl_keep (I1, me.2) r (sav2 Pa Pb) 2 (nI a) (nI b) (-1)
        refine ih a (b + 1) _ _ (by omega) ha (by omega) (by omega) (hO.tr ho) (rep_keep hB' _ _ _ _ _) ?_ kk
        have es : st2 W.1 a b B' = keepS B' (sav2 Pa Pb) 2 (nI a) (nI b) (-1) := by unfold st2; rw [hPa, hPb]
        rw [← es, ← hin, show W.1.length - b = (W.1.length - (b + 1)) + 1 by omega]
        rfl
  have key1 : ∀ fuel a (x3 : Value) (m : Mem) (B' : Bst), W.1.length - a < fuel → a ≤ W.1.length → Onl me m r (r + 2) → RepB m r B' → ou3 W.1 W.1.length 0 (ou2 W.1 (W.1.length - a) a B') = bestB W.1 →
      Wa mX0_find (0, fun _ => 0) d 0 0 sh.length (PV sh (fun m => RepB m r (bestB W.1) ∧ Onl me m r (r + 2))) 12 [.ref r, .ref w, .int (nI a), x3] [] sh m 0 0 := by
    intro fuel
    induction fuel with
    | zero => intro a x3 m B' h; omega
    | succ fuel ih =>
      intro a x3 m B' hf ha hO hB' hin
      obtain ⟨I1, R1⟩ := m
      obtain rfl : R1 = me.2 := hO.1
      have hrW1 : RepW (I1, me.2) w W := hrW.fr (fun x h1 h2 => hO.2 x (by omega))
      have hn := hrW1.2.1
      refine ld_i2 (np := 13) dX0_find_12 rfl ?_
      refine ld_a1 (np := 14) dX0_find_13 rfl ?_
      refine wl_geti (np := 17) dX0_find_14 rfl fl_X0_20 (by decide) (by assumption) ?_
      refine wl_icmp_ge (np := 20) (tg := 68) dX0_find_17 rfl rfl (fun c_17 => ?_) (fun c_17 => ?_)
      · rw [hn, nI_le_iff (by omega) (by omega)] at c_17
        rw [show W.1.length - a = 0 by omega] at hin
        refine wl_iconst (np := 69) (v := 0) dX0_find_68 rfl (rfl) ?_
        refine st_i2 (np := 70) dX0_find_69 rfl (by decide) rfl ?_
        exact key3 (W.1.length + 1) 0 _ _ B' (by omega) (by omega) hO hB' hin
      · rw [hn, nI_le_iff (by omega) (by omega)] at c_17
        refine ld_i2 (np := 21) dX0_find_20 rfl ?_
        refine wl_iconst (np := 22) (v := 1) dX0_find_21 rfl (rfl) ?_
        refine wl_iadd (np := 23) dX0_find_22 rfl ?_
        refine st_i3 (np := 24) dX0_find_23 rfl (by decide) rfl ?_
        rw [← nI_succ]
        refine key2 (W.1.length + 1) a (a + 1) _ B' (by omega) (by omega) (by omega) (by omega) hO hB' ?_ (fun m2 B2 hO2 hB2 hin2 => ?_)
        · rw [← hin, show W.1.length - a = (W.1.length - (a + 1)) + 1 by omega]; rfl
        · refine inc_2 (np := 65) (v := _ + 1) dX0_find_62 rfl rfl (by decide) rfl ?_
          refine wl_goto (tg := 12) dX0_find_65 rfl ?_
          rw [← nI_succ]
          exact ih (a + 1) _ m2 B2 (by omega) (by omega) hO2 hB2 hin2
  refine CV.mk (L := [.ref r, .ref w, .float 0, .float 0]) (by decide) (Nat.le_of_ble_eq_true rfl) rfl ?_
  refine ld_a0 (np := 1) dX0_find_0 rfl ?_
  refine wl_iconst (np := 2) (v := 0) dX0_find_1 rfl (rfl) ?_
  refine wl_puti (np := 5) dX0_find_2 rfl fl_X0_13 nf_0_1 rfl (by assumption) ?_
  refine ld_a0 (np := 6) dX0_find_5 rfl ?_
  refine wl_iconst (np := 7) (v := 0) dX0_find_6 rfl (rfl) ?_
  refine wl_puti (np := 10) dX0_find_7 rfl fl_X0_17 nf_0_2 rfl (by assumption) ?_
  refine wl_iconst (np := 11) (v := 0) dX0_find_10 rfl (rfl) ?_
  refine st_i2 (np := 12) dX0_find_11 rfl (by decide) rfl ?_
  refine key1 (W.1.length + 1) 0 _ _ (0, 0, 0, 0, 0) (by omega) (by omega) ⟨rfl, fun x hx => ?_⟩ ⟨gI_uI_self _ _ _ _, ?_, fun h => absurd rfl h⟩ rfl
  · exact (gI_uI_ne (by omega)).trans (gI_uI_ne (by omega))
  · rw [gI_uI_nb (by omega)]; exact gI_uI_self _ _ _ _
end RING2
