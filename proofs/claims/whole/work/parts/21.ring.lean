/-! ===== rings ===== -/
def isB (sh : List Shp) (me : Mem) (r : Nat) : Prop := sh[r]? = some (.inl 0) ∧ sh[r + 1]? = some (.inr (0, 3)) ∧ gR me r 0 = some (r + 1)
theorem isB.of {sh : List Shp} {me m : Mem} {r : Nat} (h : isB sh me r) (h2 : m.2 = me.2) : isB sh m r := by
  unfold isB gR at *
  rw [h2]
  exact h
def lastL (P : Prs) : Int32 := ((P.2.1[P.2.1.length - 1]?).getD (0, 0, 0, 0)).1
/-- how much less tax T pays for G's outermost coat -/
def gainS (T G : Prs) : Int32 := if T.2.1.length = 0 ∨ G.2.1.length = 0 then 0 else T.2.2 (lastL T).toNatClampNeg - T.2.2 (lastL G).toNatClampNeg
def sav2 (F S : Prs) : Int32 := if 0 < gainS F S ∧ 0 < gainS S F then gainS F S + gainS S F else 0
def sav3 (F S T : Prs) : Int32 := if 0 < gainS F T ∧ 0 < gainS S F ∧ 0 < gainS T S then gainS F T + gainS S F + gainS T S else 0
/-- saved, size, the three -/
abbrev Bst : Type := Int32 × Int32 × Int32 × Int32 × Int32
def RepB (me : Mem) (r : Nat) (B : Bst) : Prop := gI me r 2 = B.1 ∧ gI me r 1 = B.2.1 ∧ (B.2.1 ≠ 0 → gI me (r + 1) 0 = B.2.2.1 ∧ gI me (r + 1) 1 = B.2.2.2.1 ∧ gI me (r + 1) 2 = B.2.2.2.2)
def keepS (B : Bst) (s n a b c : Int32) : Bst := if B.1 < s then (s, n, a, b, c) else B
def keepM (me : Mem) (r : Nat) (s n a b c : Int32) : Mem := if gI me r 2 < s then uI (uI (uI (uI (uI me r 2 s) r 1 n) (r + 1) 0 a) (r + 1) 1 b) (r + 1) 2 c else me
theorem rep_keep {me : Mem} {r : Nat} {B : Bst} (h : RepB me r B) (s n a b c : Int32) : RepB (keepM me r s n a b c) r (keepS B s n a b c) := by
  obtain ⟨h1, h2, h3⟩ := h
  unfold keepM keepS
  rw [h1]
  split
  · refine ⟨?_, ?_, fun _ => ⟨?_, ?_, ?_⟩⟩ <;> simp only [gI_uI] <;> simp
  · exact ⟨h1, h2, h3⟩
theorem onl_keep (me : Mem) (r : Nat) (s n a b c : Int32) : Onl me (keepM me r s n a b c) r (r + 2) := by
  unfold keepM
  split
  · refine ⟨rfl, fun x hx => funext fun y => ?_⟩
    show gI (uI (uI (uI (uI (uI me r 2 s) r 1 n) (r + 1) 0 a) (r + 1) 1 b) (r + 1) 2 c) x y = gI me x y
    rw [gI_uI, if_neg (by omega), gI_uI, if_neg (by omega), gI_uI, if_neg (by omega), gI_uI, if_neg (by omega), gI_uI, if_neg (by omega)]
  · exact Onl.rf
section RING
variable {sh : List Shp} {me : Mem} {d q q2 q3 r : Nat} {P P2 P3 : Prs}
set_option maxHeartbeats 4000000 in
set_option maxRecDepth 100000 in
theorem c_gain (hq : isP sh me q) (hq2 : isP sh me q2) (hP : RepP me q P) (hP2 : RepP me q2 P2) (hl : lenP P) (hl2 : lenP P2) : CI d mX0_gain sh [.ref q, .ref q2] me (fun x m => x = gainS P P2 ∧ m = me) := by
  obtain ⟨s0, s1, s2, s3, s4, s5, r0, r1, r2, r3, r4⟩ := hq
  obtain ⟨t0, t1, t2, t3, t4, t5, u0, u1, u2, u3, u4⟩ := hq2
  have hw := hP.2.2.2.2.1
  have h8 := hP.2.2.2.2.2.1
  have hw2 := hP2.2.2.2.2.1
  have h82 := hP2.2.2.2.2.2.1
  refine CI.mk (L := [.ref q, .ref q2, .float 0, .float 0]) (by decide) (Nat.le_of_ble_eq_true rfl) rfl ?_
  refine ld_a0 (np := 1) dX0_gain_0 rfl ?_
  refine wl_geti (np := 4) dX0_gain_1 rfl fl_X0_45 (by decide) (by assumption) ?_
  refine wl_iconst (np := 5) (v := 1) dX0_gain_4 rfl (rfl) ?_
  refine wl_icmp_lt (np := 8) (tg := 16) dX0_gain_5 rfl rfl (fun c_5 => ?_) (fun c_5 => ?_)
  · rw [hw, show (1 : Int32) = nI 1 from rfl, nI_ltI (by omega) (by decide)] at c_5
    refine wl_iconst (np := 17) (v := 0) dX0_gain_16 rfl (rfl) ?_
    refine wi_ret dX0_gain_17 rfl (rfl) (Nat.le_refl _) (Nat.le_refl _) ?_
    exact ⟨by unfold gainS; rw [if_pos (by omega)], rfl⟩
  · rw [hw, show (1 : Int32) = nI 1 from rfl, nI_ltI (by omega) (by decide)] at c_5
    refine ld_a1 (np := 9) dX0_gain_8 rfl ?_
    refine wl_geti (np := 12) dX0_gain_9 rfl fl_X0_45 (by decide) (by assumption) ?_
    refine wl_iconst (np := 13) (v := 1) dX0_gain_12 rfl (rfl) ?_
    refine wl_icmp_ge (np := 16) (tg := 18) dX0_gain_13 rfl rfl (fun c_13 => ?_) (fun c_13 => ?_)
    · rw [hw2, show (1 : Int32) = nI 1 from rfl, nI_leI (by decide) (by omega)] at c_13
      have e1 : gI me q 5 - 1 = nI (P.2.1.length - 1) := by rw [hw]; exact pk_sub (b := 1) (by omega)
      have e2 : gI me q2 5 - 1 = nI (P2.2.1.length - 1) := by rw [hw2]; exact pk_sub (b := 1) (by omega)
      obtain ⟨co, hco⟩ := hP.lt (c := P.2.1.length - 1) (by omega)
      obtain ⟨co2, hco2⟩ := hP2.lt (c := P2.2.1.length - 1) (by omega)
      obtain ⟨l, hl5, el⟩ := hl co (List.mem_of_getElem? hco)
      obtain ⟨l2, hl52, el2⟩ := hl2 co2 (List.mem_of_getElem? hco2)
      have f1 : gI me (q + 1) (P.2.1.length - 1) = nI l := (hP.2.2.2.2.2.2.1 _ co hco).1.trans el
      have f2 : gI me (q2 + 1) (P2.2.1.length - 1) = nI l2 := (hP2.2.2.2.2.2.2.1 _ co2 hco2).1.trans el2
      refine ld_a0 (np := 19) dX0_gain_18 rfl ?_
      refine wl_getr (np := 22) dX0_gain_19 rfl fl_X0_50 rfl (by assumption) (by assumption) ?_
      refine ld_a0 (np := 23) dX0_gain_22 rfl ?_
      refine wl_geti (np := 26) dX0_gain_23 rfl fl_X0_45 (by decide) (by assumption) ?_
      refine wl_iconst (np := 27) (v := 1) dX0_gain_26 rfl (rfl) ?_
      refine wl_isub (np := 28) dX0_gain_27 rfl ?_
      refine wl_iaload (np := 29) dX0_gain_28 rfl (by rw [e1]; exact inA_n s1 (by omega) (by decide)) ?_
      refine st_i2 (np := 30) dX0_gain_29 rfl (by decide) rfl ?_
      refine ld_a1 (np := 31) dX0_gain_30 rfl ?_
      refine wl_getr (np := 34) dX0_gain_31 rfl fl_X0_50 rfl (by assumption) (by assumption) ?_
      refine ld_a1 (np := 35) dX0_gain_34 rfl ?_
      refine wl_geti (np := 38) dX0_gain_35 rfl fl_X0_45 (by decide) (by assumption) ?_
      refine wl_iconst (np := 39) (v := 1) dX0_gain_38 rfl (rfl) ?_
      refine wl_isub (np := 40) dX0_gain_39 rfl ?_
      refine wl_iaload (np := 41) dX0_gain_40 rfl (by rw [e2]; exact inA_n t1 (by omega) (by decide)) ?_
      refine st_i3 (np := 42) dX0_gain_41 rfl (by decide) rfl ?_
      rw [e1, e2, nI_clamp (by omega), nI_clamp (by omega), f1, f2]
      refine ld_a0 (np := 43) dX0_gain_42 rfl ?_
      refine wl_getr (np := 46) dX0_gain_43 rfl fl_X0_53 rfl (by assumption) (by assumption) ?_
      refine ld_i2 (np := 47) dX0_gain_46 rfl ?_
      refine wl_iaload (np := 48) dX0_gain_47 rfl (inA_n s5 (by omega) (by decide)) ?_
      refine ld_a0 (np := 49) dX0_gain_48 rfl ?_
      refine wl_getr (np := 52) dX0_gain_49 rfl fl_X0_53 rfl (by assumption) (by assumption) ?_
      refine ld_i3 (np := 53) dX0_gain_52 rfl ?_
      refine wl_iaload (np := 54) dX0_gain_53 rfl (inA_n s5 (by omega) (by decide)) ?_
      refine wl_isub (np := 55) dX0_gain_54 rfl ?_
      refine wi_ret dX0_gain_55 rfl (rfl) (Nat.le_refl _) (Nat.le_refl _) ?_
      rw [nI_clamp (by omega), nI_clamp (by omega), hP.2.2.2.2.2.2.2 l hl5, hP.2.2.2.2.2.2.2 l2 hl52]
      refine ⟨?_, rfl⟩
      unfold gainS lastL
      rw [if_neg (by omega), hco, hco2]
      dsimp only [Option.getD_some]
      rw [el, el2, nI_clamp (by omega), nI_clamp (by omega)]
    · rw [hw2, show (1 : Int32) = nI 1 from rfl, nI_leI (by decide) (by omega)] at c_13
      refine wl_iconst (np := 17) (v := 0) dX0_gain_16 rfl (rfl) ?_
      refine wi_ret dX0_gain_17 rfl (rfl) (Nat.le_refl _) (Nat.le_refl _) ?_
      exact ⟨by unfold gainS; rw [if_pos (by omega)], rfl⟩
set_option maxHeartbeats 4000000 in
set_option maxRecDepth 100000 in
theorem c_savedBy2 (hq : isP sh me q) (hq2 : isP sh me q2) (hP : RepP me q P) (hP2 : RepP me q2 P2) (hl : lenP P) (hl2 : lenP P2) (hd : 1 ≤ d) : CI d mX0_savedBy sh [.ref q, .ref q2, .null] me (fun x m => x = sav2 P P2 ∧ m = me) := by
  refine CI.mk (L := [.ref q, .ref q2, .null, .float 0, .float 0, .float 0]) (by decide) (Nat.le_of_ble_eq_true rfl) rfl ?_
  first | refine ld_a1 (np := 1) dX0_savedBy_0 rfl ?_ | refine ldN_a1 (np := 1) dX0_savedBy_0 rfl ?_ | refine ldS_a1 (np := 1) dX0_savedBy_0 rfl ?_
  first | refine ld_a0 (np := 2) dX0_savedBy_1 rfl ?_ | refine ldN_a0 (np := 2) dX0_savedBy_1 rfl ?_ | refine ldS_a0 (np := 2) dX0_savedBy_1 rfl ?_
  refine ciS_2 (np := 5) dX0_savedBy_2 rfl lk_X0_41 (Nat.le_of_ble_eq_true rfl) (by omega) (Nat.le_refl _) (Nat.le_refl _) (c_gain hq2 hq hP2 hP hl2 hl) (fun x_2 m_2 h_2 => ?_)
  obtain ⟨rfl, q_2⟩ := h_2
  have q_2 := q_2.symm
  subst q_2
  refine st_i3 (np := 6) dX0_savedBy_5 rfl (by decide) rfl ?_
  first | refine ld_a2 (np := 7) dX0_savedBy_6 rfl ?_ | refine ldN_a2 (np := 7) dX0_savedBy_6 rfl ?_ | refine ldS_a2 (np := 7) dX0_savedBy_6 rfl ?_
  refine wl_ifnonnullN (np := 10) dX0_savedBy_7 rfl ?_
  first | refine ld_a0 (np := 11) dX0_savedBy_10 rfl ?_ | refine ldN_a0 (np := 11) dX0_savedBy_10 rfl ?_ | refine ldS_a0 (np := 11) dX0_savedBy_10 rfl ?_
  first | refine ld_a1 (np := 12) dX0_savedBy_11 rfl ?_ | refine ldN_a1 (np := 12) dX0_savedBy_11 rfl ?_ | refine ldS_a1 (np := 12) dX0_savedBy_11 rfl ?_
  refine ciS_2 (np := 15) dX0_savedBy_12 rfl lk_X0_41 (Nat.le_of_ble_eq_true rfl) (by omega) (Nat.le_refl _) (Nat.le_refl _) (c_gain hq hq2 hP hP2 hl hl2) (fun x_12 m_12 h_12 => ?_)
  obtain ⟨rfl, q_12⟩ := h_12
  have q_12 := q_12.symm
  subst q_12
  refine st_i4 (np := 17) dX0_savedBy_15 rfl (by decide) rfl ?_
  refine ld_i4 (np := 19) dX0_savedBy_17 rfl ?_
  refine wl_if_le (np := 22) (tg := 33) dX0_savedBy_19 rfl rfl (fun c_19 => ?_) (fun c_19 => ?_)
  · refine wl_iconst (np := 34) (v := 0) dX0_savedBy_33 rfl (rfl) ?_
    refine wi_ret dX0_savedBy_34 rfl (rfl) (Nat.le_refl _) (Nat.le_refl _) ?_
    exact ⟨by unfold sav2; rw [if_neg (fun h => Int32.not_lt.mpr c_19 h.1)], rfl⟩
  · refine ld_i3 (np := 23) dX0_savedBy_22 rfl ?_
    refine wl_if_le (np := 26) (tg := 33) dX0_savedBy_23 rfl rfl (fun c_23 => ?_) (fun c_23 => ?_)
    · refine wl_iconst (np := 34) (v := 0) dX0_savedBy_33 rfl (rfl) ?_
      refine wi_ret dX0_savedBy_34 rfl (rfl) (Nat.le_refl _) (Nat.le_refl _) ?_
      exact ⟨by unfold sav2; rw [if_neg (fun h => Int32.not_lt.mpr c_23 h.2)], rfl⟩
    · refine ld_i4 (np := 28) dX0_savedBy_26 rfl ?_
      refine ld_i3 (np := 29) dX0_savedBy_28 rfl ?_
      refine wl_iadd (np := 30) dX0_savedBy_29 rfl ?_
      refine wl_goto (tg := 34) dX0_savedBy_30 rfl ?_
      refine wi_ret dX0_savedBy_34 rfl (rfl) (Nat.le_refl _) (Nat.le_refl _) ?_
      exact ⟨by unfold sav2; rw [if_pos ⟨Int32.not_le.mp c_19, Int32.not_le.mp c_23⟩], rfl⟩
set_option maxHeartbeats 4000000 in
set_option maxRecDepth 100000 in
theorem c_savedBy3 (hq : isP sh me q) (hq2 : isP sh me q2) (hq3 : isP sh me q3) (hP : RepP me q P) (hP2 : RepP me q2 P2) (hP3 : RepP me q3 P3) (hl : lenP P) (hl2 : lenP P2) (hl3 : lenP P3) (hd : 1 ≤ d) : CI d mX0_savedBy sh [.ref q, .ref q2, .ref q3] me (fun x m => x = sav3 P P2 P3 ∧ m = me) := by
  refine CI.mk (L := [.ref q, .ref q2, .ref q3, .float 0, .float 0, .float 0]) (by decide) (Nat.le_of_ble_eq_true rfl) rfl ?_
  first | refine ld_a1 (np := 1) dX0_savedBy_0 rfl ?_ | refine ldN_a1 (np := 1) dX0_savedBy_0 rfl ?_ | refine ldS_a1 (np := 1) dX0_savedBy_0 rfl ?_
  first | refine ld_a0 (np := 2) dX0_savedBy_1 rfl ?_ | refine ldN_a0 (np := 2) dX0_savedBy_1 rfl ?_ | refine ldS_a0 (np := 2) dX0_savedBy_1 rfl ?_
  refine ciS_2 (np := 5) dX0_savedBy_2 rfl lk_X0_41 (Nat.le_of_ble_eq_true rfl) (by omega) (Nat.le_refl _) (Nat.le_refl _) (c_gain hq2 hq hP2 hP hl2 hl) (fun x_2 m_2 h_2 => ?_)
  obtain ⟨rfl, q_2⟩ := h_2
  have q_2 := q_2.symm
  subst q_2
  refine st_i3 (np := 6) dX0_savedBy_5 rfl (by decide) rfl ?_
  first | refine ld_a2 (np := 7) dX0_savedBy_6 rfl ?_ | refine ldN_a2 (np := 7) dX0_savedBy_6 rfl ?_ | refine ldS_a2 (np := 7) dX0_savedBy_6 rfl ?_
  refine wl_ifnonnull (tg := 35) dX0_savedBy_7 rfl ?_
  first | refine ld_a2 (np := 36) dX0_savedBy_35 rfl ?_ | refine ldN_a2 (np := 36) dX0_savedBy_35 rfl ?_ | refine ldS_a2 (np := 36) dX0_savedBy_35 rfl ?_
  first | refine ld_a1 (np := 37) dX0_savedBy_36 rfl ?_ | refine ldN_a1 (np := 37) dX0_savedBy_36 rfl ?_ | refine ldS_a1 (np := 37) dX0_savedBy_36 rfl ?_
  refine ciS_2 (np := 40) dX0_savedBy_37 rfl lk_X0_41 (Nat.le_of_ble_eq_true rfl) (by omega) (Nat.le_refl _) (Nat.le_refl _) (c_gain hq3 hq2 hP3 hP2 hl3 hl2) (fun x_37 m_37 h_37 => ?_)
  obtain ⟨rfl, q_37⟩ := h_37
  have q_37 := q_37.symm
  subst q_37
  refine st_i4 (np := 42) dX0_savedBy_40 rfl (by decide) rfl ?_
  first | refine ld_a0 (np := 43) dX0_savedBy_42 rfl ?_ | refine ldN_a0 (np := 43) dX0_savedBy_42 rfl ?_ | refine ldS_a0 (np := 43) dX0_savedBy_42 rfl ?_
  first | refine ld_a2 (np := 44) dX0_savedBy_43 rfl ?_ | refine ldN_a2 (np := 44) dX0_savedBy_43 rfl ?_ | refine ldS_a2 (np := 44) dX0_savedBy_43 rfl ?_
  refine ciS_2 (np := 47) dX0_savedBy_44 rfl lk_X0_41 (Nat.le_of_ble_eq_true rfl) (by omega) (Nat.le_refl _) (Nat.le_refl _) (c_gain hq hq3 hP hP3 hl hl3) (fun x_44 m_44 h_44 => ?_)
  obtain ⟨rfl, q_44⟩ := h_44
  have q_44 := q_44.symm
  subst q_44
  refine st_i5 (np := 49) dX0_savedBy_47 rfl (by decide) rfl ?_
  refine ld_i5 (np := 51) dX0_savedBy_49 rfl ?_
  refine wl_if_le (np := 54) (tg := 73) dX0_savedBy_51 rfl rfl (fun c_51 => ?_) (fun c_51 => ?_)
  · refine wl_iconst (np := 74) (v := 0) dX0_savedBy_73 rfl (rfl) ?_
    refine wi_ret dX0_savedBy_74 rfl (rfl) (Nat.le_refl _) (Nat.le_refl _) ?_
    exact ⟨by unfold sav3; rw [if_neg (fun h => Int32.not_lt.mpr c_51 h.1)], rfl⟩
  · refine ld_i3 (np := 55) dX0_savedBy_54 rfl ?_
    refine wl_if_le (np := 58) (tg := 73) dX0_savedBy_55 rfl rfl (fun c_55 => ?_) (fun c_55 => ?_)
    · refine wl_iconst (np := 74) (v := 0) dX0_savedBy_73 rfl (rfl) ?_
      refine wi_ret dX0_savedBy_74 rfl (rfl) (Nat.le_refl _) (Nat.le_refl _) ?_
      exact ⟨by unfold sav3; rw [if_neg (fun h => Int32.not_lt.mpr c_55 h.2.1)], rfl⟩
    · refine ld_i4 (np := 60) dX0_savedBy_58 rfl ?_
      refine wl_if_le (np := 63) (tg := 73) dX0_savedBy_60 rfl rfl (fun c_60 => ?_) (fun c_60 => ?_)
      · refine wl_iconst (np := 74) (v := 0) dX0_savedBy_73 rfl (rfl) ?_
        refine wi_ret dX0_savedBy_74 rfl (rfl) (Nat.le_refl _) (Nat.le_refl _) ?_
        exact ⟨by unfold sav3; rw [if_neg (fun h => Int32.not_lt.mpr c_60 h.2.2)], rfl⟩
      · refine ld_i5 (np := 65) dX0_savedBy_63 rfl ?_
        refine ld_i3 (np := 66) dX0_savedBy_65 rfl ?_
        refine wl_iadd (np := 67) dX0_savedBy_66 rfl ?_
        refine ld_i4 (np := 69) dX0_savedBy_67 rfl ?_
        refine wl_iadd (np := 70) dX0_savedBy_69 rfl ?_
        refine wl_goto (tg := 74) dX0_savedBy_70 rfl ?_
        refine wi_ret dX0_savedBy_74 rfl (rfl) (Nat.le_refl _) (Nat.le_refl _) ?_
        exact ⟨by unfold sav3; rw [if_pos ⟨Int32.not_le.mp c_51, Int32.not_le.mp c_55, Int32.not_le.mp c_60⟩], rfl⟩
set_option maxHeartbeats 4000000 in
set_option maxRecDepth 100000 in
theorem c_B_keep (s n a b c : Int32) (hr : isB sh me r) : CV d mX0_keepIfBetter sh [.ref r, .int s, .int n, .int a, .int b, .int c] me (fun m => m = keepM me r s n a b c) := by
  obtain ⟨s0, s1, r0⟩ := hr
  refine CV.mk (L := [.ref r, .int s, .int n, .int a, .int b, .int c]) (by decide) (Nat.le_of_ble_eq_true rfl) rfl ?_
  refine ld_i1 (np := 1) dX0_keepIfBetter_0 rfl ?_
  refine ld_a0 (np := 2) dX0_keepIfBetter_1 rfl ?_
  refine wl_geti (np := 5) dX0_keepIfBetter_2 rfl fl_X0_17 (by decide) (by assumption) ?_
  refine wl_icmp_le (np := 8) (tg := 41) dX0_keepIfBetter_5 rfl rfl (fun c_5 => ?_) (fun c_5 => ?_)
  · refine wv_ret dX0_keepIfBetter_41 rfl (Nat.le_refl _) (Nat.le_refl _) ?_
    unfold keepM
    rw [if_neg (Int32.not_lt.mpr c_5)]
  · refine ld_a0 (np := 9) dX0_keepIfBetter_8 rfl ?_
    refine ld_i1 (np := 10) dX0_keepIfBetter_9 rfl ?_
    refine wl_puti (np := 13) dX0_keepIfBetter_10 rfl fl_X0_17 nf_0_2 rfl (by assumption) ?_
    refine ld_a0 (np := 14) dX0_keepIfBetter_13 rfl ?_
    refine ld_i2 (np := 15) dX0_keepIfBetter_14 rfl ?_
    refine wl_puti (np := 18) dX0_keepIfBetter_15 rfl fl_X0_13 nf_0_1 rfl (by assumption) ?_
    refine ld_a0 (np := 19) dX0_keepIfBetter_18 rfl ?_
    refine wl_getr (np := 22) dX0_keepIfBetter_19 rfl fl_X0_7 rfl (by assumption) (by assumption) ?_
    refine wl_iconst (np := 23) (v := 0) dX0_keepIfBetter_22 rfl (rfl) ?_
    refine ld_i3 (np := 24) dX0_keepIfBetter_23 rfl ?_
    refine wl_iastore (np := 25) dX0_keepIfBetter_24 rfl (inA_n (i := 0) s1 (by omega) (by decide)) ?_
    refine ld_a0 (np := 26) dX0_keepIfBetter_25 rfl ?_
    refine wl_getr (np := 29) dX0_keepIfBetter_26 rfl fl_X0_7 rfl (by assumption) (by assumption) ?_
    refine wl_iconst (np := 30) (v := 1) dX0_keepIfBetter_29 rfl (rfl) ?_
    refine ld_i4 (np := 32) dX0_keepIfBetter_30 rfl ?_
    refine wl_iastore (np := 33) dX0_keepIfBetter_32 rfl (inA_n (i := 1) s1 (by omega) (by decide)) ?_
    refine ld_a0 (np := 34) dX0_keepIfBetter_33 rfl ?_
    refine wl_getr (np := 37) dX0_keepIfBetter_34 rfl fl_X0_7 rfl (by assumption) (by assumption) ?_
    refine wl_iconst (np := 38) (v := 2) dX0_keepIfBetter_37 rfl (rfl) ?_
    refine ld_i5 (np := 40) dX0_keepIfBetter_38 rfl ?_
    refine wl_iastore (np := 41) dX0_keepIfBetter_40 rfl (inA_n (i := 2) s1 (by omega) (by decide)) ?_
    refine wv_ret dX0_keepIfBetter_41 rfl (Nat.le_refl _) (Nat.le_refl _) ?_
    unfold keepM
    rw [if_pos (Int32.not_le.mp c_5)]
    rfl
end RING
