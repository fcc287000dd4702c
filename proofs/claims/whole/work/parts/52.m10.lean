theorem and1 (y : Int32) : y &&& 1 = 0 ∨ y &&& 1 = 1 := by
  have h : (y.toBitVec &&& 1#32).toNat = y.toBitVec.toNat % 2 := by
    rw [BitVec.toNat_and]
    exact Nat.and_one_is_mod _
  rcases Nat.mod_two_eq_zero_or_one y.toBitVec.toNat with q | q
  · left
    apply Int32.toBitVec_inj.mp
    apply BitVec.eq_of_toNat_eq
    exact h.trans q
  · right
    apply Int32.toBitVec_inj.mp
    apply BitVec.eq_of_toNat_eq
    exact h.trans q
theorem bt64 (y : Int64) : (32 ≤ (y &&& 255) ∧ (y &&& 255) ≤ 126) ↔ (32 ≤ (y &&& 255).toInt32 ∧ (y &&& 255).toInt32 ≤ 126) := by
  have hn : (y.toBitVec &&& 255#64).toNat ≤ 255 := by
    rw [BitVec.toNat_and]
    exact Nat.and_le_right
  have hi : (y &&& 255).toInt = ((y.toBitVec &&& 255#64).toNat : Int) := by
    show (y.toBitVec &&& 255#64).toInt = _
    exact BitVec.toInt_eq_toNat_of_lt (by omega)
  have h32 : (y &&& 255).toInt32.toInt = (y &&& 255).toInt := by
    rw [Int64.toInt_toInt32, hi]
    exact Int.bmod_eq_of_le (by omega) (by omega)
  rw [Int64.le_iff_toInt_le, Int64.le_iff_toInt_le, Int32.le_iff_toInt_le, Int32.le_iff_toInt_le, h32]
  exact Iff.rfl
def layF (I F : Nat → Int32) (k n : Nat) : Nat → Int32 := fun x => if k ≤ x ∧ x < k + n then F (x - k) else I x
theorem layF_in {I F : Nat → Int32} {k n i : Nat} (h : i < n) : layF I F k n (k + i) = F i := by
  unfold layF
  rw [if_pos (by omega)]
  congr 1
  omega
theorem layF_out {I F : Nat → Int32} {k n x : Nat} (h : ¬ (k ≤ x ∧ x < k + n)) : layF I F k n x = I x := if_neg h
theorem layF_succ (I F : Nat → Int32) (k n : Nat) : upF (layF I F k n) (k + n) (F n) = layF I F k (n + 1) := by
  funext x
  by_cases hx : x = k + n
  · subst hx
    rw [upF_s, layF_in (by omega)]
  · rw [upF_n hx]
    unfold layF
    exact if_iff (by omega)
section M10
variable {sh : List Shp} {me : Mem} {d kk : Nat} {S : St}
set_option maxHeartbeats 4000000 in
set_option maxRecDepth 100000 in
theorem c_M_lay {a n k : Nat} (z0 : sh[136]? = some (.inl 7)) (g22 : gR me 136 22 = some 149) (x22 : sh[149]? = some (.inr (0, 270))) (xa : sh[a]? = some (.inr (0, n))) (ha : a ≠ 149) (hk : k + n ≤ 270) : CI d mX7_lay sh [.ref 136, .ref a, .int (nI k)] me (fun x m => x = nI (k + n) ∧ m = uA me 149 (layF (gI me 149) (gI me a) k n)) := by
  have key : ∀ fuel i, n - i < fuel → i ≤ n → Wa mX7_lay (0, fun _ => 0) d 0 0 sh.length (PI sh (fun x m => x = nI (k + n) ∧ m = uA me 149 (layF (gI me 149) (gI me a) k n))) 2 [.ref 136, .ref a, .int (nI k), .int (nI i)] [] sh (uA me 149 (layF (gI me 149) (gI me a) k i)) 0 0 := by
    intro fuel
    induction fuel with
    | zero => intro i h; omega
    | succ fuel ih =>
      intro i hi hin
      refine ld_i3 (np := 3) dX7_lay_2 rfl ?_
      refine ld_a1 (np := 4) dX7_lay_3 rfl ?_
      refine wl_alen (np := 5) dX7_lay_4 rfl (by assumption) (by decide) rfl ?_
      refine wl_icmp_ge (np := 8) (tg := 25) dX7_lay_5 rfl rfl (fun c_5 => ?_) (fun c_5 => ?_)
      · have c5 : nI n ≤ nI i := c_5
        rw [nI_le_iff (by omega) (by omega)] at c5
        have hie : i = n := by omega
        subst hie
        refine ld_i2 (np := 26) dX7_lay_25 rfl ?_
        refine ld_a1 (np := 27) dX7_lay_26 rfl ?_
        refine wl_alen (np := 28) dX7_lay_27 rfl (by assumption) (by decide) rfl ?_
        refine wl_iadd (np := 29) dX7_lay_28 rfl ?_
        refine wi_ret dX7_lay_29 rfl (rfl) (Nat.le_refl _) (Nat.le_refl _) ?_
        exact ⟨nI_add _ _, rfl⟩
      · have c5 : ¬ nI n ≤ nI i := c_5
        rw [nI_le_iff (by omega) (by omega)] at c5
        refine ld_a0 (np := 9) dX7_lay_8 rfl ?_
        refine wl_getr (np := 12) dX7_lay_9 rfl fl_X7_49 rfl (by assumption) (by assumption) ?_
        refine ld_i2 (np := 13) dX7_lay_12 rfl ?_
        refine ld_i3 (np := 14) dX7_lay_13 rfl ?_
        refine wl_iadd (np := 15) dX7_lay_14 rfl ?_
        refine ld_a1 (np := 16) dX7_lay_15 rfl ?_
        refine ld_i3 (np := 17) dX7_lay_16 rfl ?_
        refine wl_ialoadN (np := 18) dX7_lay_17 rfl (by first | (simp only [nIm, nIa, ← nI_succ]; exact rfl) | exact nI_z | exact nI_o | exact rfl) (by assumption) (by omega) (by first | decide | omega) ?_
        refine wl_iastoreN (np := 19) dX7_lay_18 rfl (by first | (simp only [nIm, nIa, ← nI_succ]; exact rfl) | exact nI_z | exact nI_o | exact rfl) (by assumption) (by omega) (by first | decide | omega) ?_
        refine inc_3 (np := 22) (v := _ + 1) dX7_lay_19 rfl rfl (by decide) rfl ?_
        refine wl_goto (tg := 2) dX7_lay_22 rfl ?_
        rw [uI_uA, gI_uAn ha, layF_succ, ← nI_succ]
        exact ih (i + 1) (by omega) (by omega)
  refine CI.mk (L := [.ref 136, .ref a, .int (nI k), .float 0]) (by decide) (Nat.le_of_ble_eq_true rfl) rfl ?_
  refine wl_iconst (np := 1) (v := 0) dX7_lay_0 rfl (rfl) ?_
  refine st_i3 (np := 2) dX7_lay_1 rfl (by decide) rfl ?_
  have h0 := key (n + 1) 0 (by omega) (by omega)
  have e : layF (gI me 149) (gI me a) k 0 = gI me 149 := by funext x; exact layF_out (by omega)
  rw [e, uA_id] at h0
  exact h0
set_option maxHeartbeats 4000000 in
set_option maxRecDepth 100000 in
theorem c_M_gives {a n k : Nat} (z0 : sh[136]? = some (.inl 7)) (g22 : gR me 136 22 = some 149) (x22 : sh[149]? = some (.inr (0, 270))) (xa : sh[a]? = some (.inr (0, n))) (ha : a ≠ 149) (ha2 : a ≠ 136) (hk : k + n ≤ 270) : CI d mX7_gives sh [.ref 136, .int (nI k), .ref a] me (fun x m => x = nI (k + n) ∧ m = uA me a (layF (gI me a) (fun i => gI me 149 (k + i)) 0 n)) := by
  have key : ∀ fuel i, n - i < fuel → i ≤ n → Wa mX7_gives (0, fun _ => 0) d 0 0 sh.length (PI sh (fun x m => x = nI (k + n) ∧ m = uA me a (layF (gI me a) (fun i => gI me 149 (k + i)) 0 n))) 2 [.ref 136, .int (nI k), .ref a, .int (nI i)] [] sh (uA me a (layF (gI me a) (fun i => gI me 149 (k + i)) 0 i)) 0 0 := by
    intro fuel
    induction fuel with
    | zero => intro i h; omega
    | succ fuel ih =>
      intro i hi hin
      refine ld_i3 (np := 3) dX7_gives_2 rfl ?_
      refine ld_a2 (np := 4) dX7_gives_3 rfl ?_
      refine wl_alen (np := 5) dX7_gives_4 rfl (by assumption) (by decide) rfl ?_
      refine wl_icmp_ge (np := 8) (tg := 25) dX7_gives_5 rfl rfl (fun c_5 => ?_) (fun c_5 => ?_)
      · have c5 : nI n ≤ nI i := c_5
        rw [nI_le_iff (by omega) (by omega)] at c5
        have hie : i = n := by omega
        subst hie
        refine ld_i1 (np := 26) dX7_gives_25 rfl ?_
        refine ld_a2 (np := 27) dX7_gives_26 rfl ?_
        refine wl_alen (np := 28) dX7_gives_27 rfl (by assumption) (by decide) rfl ?_
        refine wl_iadd (np := 29) dX7_gives_28 rfl ?_
        refine wi_ret dX7_gives_29 rfl (rfl) (Nat.le_refl _) (Nat.le_refl _) ?_
        exact ⟨nI_add _ _, rfl⟩
      · have c5 : ¬ nI n ≤ nI i := c_5
        rw [nI_le_iff (by omega) (by omega)] at c5
        refine ld_a2 (np := 9) dX7_gives_8 rfl ?_
        refine ld_i3 (np := 10) dX7_gives_9 rfl ?_
        refine ld_a0 (np := 11) dX7_gives_10 rfl ?_
        refine wl_getr (np := 14) dX7_gives_11 rfl fl_X7_49 rfl (by assumption) (by assumption) ?_
        refine ld_i1 (np := 15) dX7_gives_14 rfl ?_
        refine ld_i3 (np := 16) dX7_gives_15 rfl ?_
        refine wl_iadd (np := 17) dX7_gives_16 rfl ?_
        refine wl_ialoadN (np := 18) dX7_gives_17 rfl (by first | (simp only [nIm, nIa, ← nI_succ]; exact rfl) | exact nI_z | exact nI_o | exact rfl) (by assumption) (by omega) (by first | decide | omega) ?_
        refine wl_iastoreN (np := 19) dX7_gives_18 rfl (by first | (simp only [nIm, nIa, ← nI_succ]; exact rfl) | exact nI_z | exact nI_o | exact rfl) (by assumption) (by omega) (by first | decide | omega) ?_
        refine inc_3 (np := 22) (v := _ + 1) dX7_gives_19 rfl rfl (by decide) rfl ?_
        refine wl_goto (tg := 2) dX7_gives_22 rfl ?_
        have hl := layF_succ (gI me a) (fun i => gI me 149 (k + i)) 0 i
        rw [Nat.zero_add] at hl
        rw [uI_uA, gI_uAn (fun q => ha q.symm), hl, ← nI_succ]
        exact ih (i + 1) (by omega) (by omega)
  refine CI.mk (L := [.ref 136, .int (nI k), .ref a, .float 0]) (by decide) (Nat.le_of_ble_eq_true rfl) rfl ?_
  refine wl_iconst (np := 1) (v := 0) dX7_gives_0 rfl (rfl) ?_
  refine st_i3 (np := 2) dX7_gives_1 rfl (by decide) rfl ?_
  have h0 := key (n + 1) 0 (by omega) (by omega)
  have e : layF (gI me a) (fun i => gI me 149 (k + i)) 0 0 = gI me a := by funext x; exact layF_out (by omega)
  rw [e, uA_id] at h0
  exact h0
set_option maxHeartbeats 4000000 in
set_option maxRecDepth 100000 in
theorem c_M_image (hF : FixM sh me) (hR : RepM me S) (hd : 1 ≤ d) : CI d mX7_image sh [.ref 136] me (fun x m => x = (sp_image S).1 ∧ GoodM sh me m (sp_image S).2) := by
  have hFs := hF
  obtain ⟨z0, ⟨x1, x2, x4, x5, x6, x10, x11, x12, x16, x17, x18, x21, x22, x24, x25, x26, x27⟩, ⟨g1, g2, g4, g5, g6, g10, g11, g12, g16, g17, g18, g21, g22, g24, g25, g26, g27⟩, gs⟩ := hF
  refine CI.mk (L := [.ref 136, .float 0]) (by decide) (Nat.le_of_ble_eq_true rfl) rfl ?_
  generalize hG : layF (layF (layF (layF (layF (layF (gI me 149) (gI me 137) 0 200) (gI me 139) 200 25) (gI me 140) 225 12) (gI me 141) 237 2) (gI me 142) 239 8) (gI me 143) 247 8 = G
  refine ld_a0 (np := 1) dX7_image_0 rfl ?_
  refine ld_a0 (np := 2) dX7_image_1 rfl ?_
  refine wl_getr (np := 5) dX7_image_2 rfl fl_X7_7 rfl (by assumption) (by assumption) ?_
  refine wl_iconst (np := 6) (v := 0) dX7_image_5 rfl (rfl) ?_
  refine ciV_2 (np := 9) dX7_image_6 rfl lk_X7_217 (by assumption) (Nat.le_of_ble_eq_true rfl) (by omega) (Nat.le_refl _) (Nat.le_refl _) (c_M_lay (k := 0) (n := 200) z0 g22 x22 x1 (by omega) (by omega)) (fun x_6 m_6 h_6 => ?_)
  obtain ⟨rfl, q_6⟩ := h_6
  have q_6 := q_6.symm
  subst q_6
  refine st_i1 (np := 10) dX7_image_9 rfl (by decide) rfl ?_
  refine ld_a0 (np := 11) dX7_image_10 rfl ?_
  refine ld_a0 (np := 12) dX7_image_11 rfl ?_
  refine wl_getr (np := 15) dX7_image_12 rfl fl_X7_19 rfl (by assumption) (by assumption) ?_
  refine ld_i1 (np := 16) dX7_image_15 rfl ?_
  refine ciV_2 (np := 19) dX7_image_16 rfl lk_X7_217 (by assumption) (Nat.le_of_ble_eq_true rfl) (by omega) (Nat.le_refl _) (Nat.le_refl _) (c_M_lay (k := 200) (n := 25) z0 g22 x22 x4 (by omega) (by omega)) (fun x_16 m_16 h_16 => ?_)
  obtain ⟨rfl, q_16⟩ := h_16
  have q_16 := q_16.symm
  subst q_16
  refine st_i1 (np := 20) dX7_image_19 rfl (by decide) rfl ?_
  refine ld_a0 (np := 21) dX7_image_20 rfl ?_
  refine ld_a0 (np := 22) dX7_image_21 rfl ?_
  refine wl_getr (np := 25) dX7_image_22 rfl fl_X7_22 rfl (by assumption) (by assumption) ?_
  refine ld_i1 (np := 26) dX7_image_25 rfl ?_
  refine ciV_2 (np := 29) dX7_image_26 rfl lk_X7_217 (by assumption) (Nat.le_of_ble_eq_true rfl) (by omega) (Nat.le_refl _) (Nat.le_refl _) (c_M_lay (k := 225) (n := 12) z0 g22 x22 x5 (by omega) (by omega)) (fun x_26 m_26 h_26 => ?_)
  obtain ⟨rfl, q_26⟩ := h_26
  have q_26 := q_26.symm
  subst q_26
  refine st_i1 (np := 30) dX7_image_29 rfl (by decide) rfl ?_
  refine ld_a0 (np := 31) dX7_image_30 rfl ?_
  refine ld_a0 (np := 32) dX7_image_31 rfl ?_
  refine wl_getr (np := 35) dX7_image_32 rfl fl_X7_25 rfl (by assumption) (by assumption) ?_
  refine ld_i1 (np := 36) dX7_image_35 rfl ?_
  refine ciV_2 (np := 39) dX7_image_36 rfl lk_X7_217 (by assumption) (Nat.le_of_ble_eq_true rfl) (by omega) (Nat.le_refl _) (Nat.le_refl _) (c_M_lay (k := 237) (n := 2) z0 g22 x22 x6 (by omega) (by omega)) (fun x_36 m_36 h_36 => ?_)
  obtain ⟨rfl, q_36⟩ := h_36
  have q_36 := q_36.symm
  subst q_36
  refine st_i1 (np := 40) dX7_image_39 rfl (by decide) rfl ?_
  refine ld_a0 (np := 41) dX7_image_40 rfl ?_
  refine ld_a0 (np := 42) dX7_image_41 rfl ?_
  refine wl_getr (np := 45) dX7_image_42 rfl fl_X7_28 rfl (by assumption) (by assumption) ?_
  refine ld_i1 (np := 46) dX7_image_45 rfl ?_
  refine ciV_2 (np := 49) dX7_image_46 rfl lk_X7_217 (by assumption) (Nat.le_of_ble_eq_true rfl) (by omega) (Nat.le_refl _) (Nat.le_refl _) (c_M_lay (k := 239) (n := 8) z0 g22 x22 x10 (by omega) (by omega)) (fun x_46 m_46 h_46 => ?_)
  obtain ⟨rfl, q_46⟩ := h_46
  have q_46 := q_46.symm
  subst q_46
  refine st_i1 (np := 50) dX7_image_49 rfl (by decide) rfl ?_
  refine ld_a0 (np := 51) dX7_image_50 rfl ?_
  refine ld_a0 (np := 52) dX7_image_51 rfl ?_
  refine wl_getr (np := 55) dX7_image_52 rfl fl_X7_31 rfl (by assumption) (by assumption) ?_
  refine ld_i1 (np := 56) dX7_image_55 rfl ?_
  refine ciV_2 (np := 59) dX7_image_56 rfl lk_X7_217 (by assumption) (Nat.le_of_ble_eq_true rfl) (by omega) (Nat.le_refl _) (Nat.le_refl _) (c_M_lay (k := 247) (n := 8) z0 g22 x22 x11 (by omega) (by omega)) (fun x_56 m_56 h_56 => ?_)
  obtain ⟨rfl, q_56⟩ := h_56
  have q_56 := q_56.symm
  subst q_56
  refine st_i1 (np := 60) dX7_image_59 rfl (by decide) rfl ?_
  simp only [uA_uA, gI_uAs, gI_uAn (show (139 : Nat) ≠ 149 by omega), gI_uAn (show (140 : Nat) ≠ 149 by omega), gI_uAn (show (141 : Nat) ≠ 149 by omega), gI_uAn (show (142 : Nat) ≠ 149 by omega), gI_uAn (show (143 : Nat) ≠ 149 by omega)]
  rw [hG]
  refine ld_a0 (np := 61) dX7_image_60 rfl ?_
  refine wl_getr (np := 64) dX7_image_61 rfl fl_X7_49 rfl (by assumption) (by assumption) ?_
  refine ld_i1 (np := 65) dX7_image_64 rfl ?_
  refine ld_a0 (np := 66) dX7_image_65 rfl ?_
  refine wl_geti (np := 69) dX7_image_66 rfl fl_X7_64 (by decide) (by assumption) ?_
  refine wl_iastoreN (np := 70) dX7_image_69 rfl (by first | (simp only [nIm, nIa, ← nI_succ]; exact rfl) | exact nI_z | exact nI_o | exact rfl) (by assumption) (by omega) (by first | decide | omega) ?_
  refine ld_a0 (np := 71) dX7_image_70 rfl ?_
  refine wl_getr (np := 74) dX7_image_71 rfl fl_X7_49 rfl (by assumption) (by assumption) ?_
  refine ld_i1 (np := 75) dX7_image_74 rfl ?_
  refine wl_iconst (np := 76) (v := 1) dX7_image_75 rfl (rfl) ?_
  refine wl_iadd (np := 77) dX7_image_76 rfl ?_
  refine ld_a0 (np := 78) dX7_image_77 rfl ?_
  refine wl_geti (np := 81) dX7_image_78 rfl fl_X7_145 (by decide) (by assumption) ?_
  refine wl_iastoreN (np := 82) dX7_image_81 rfl (by first | (simp only [nIm, nIa, ← nI_succ]; exact rfl) | exact nI_z | exact nI_o | exact rfl) (by assumption) (by omega) (by first | decide | omega) ?_
  refine ld_a0 (np := 83) dX7_image_82 rfl ?_
  refine wl_getr (np := 86) dX7_image_83 rfl fl_X7_49 rfl (by assumption) (by assumption) ?_
  refine ld_i1 (np := 87) dX7_image_86 rfl ?_
  refine wl_iconst (np := 88) (v := nI 2) dX7_image_87 rfl (rfl) ?_
  refine wl_iadd (np := 89) dX7_image_88 rfl ?_
  refine ld_a0 (np := 90) dX7_image_89 rfl ?_
  refine wl_geti (np := 93) dX7_image_90 rfl fl_X7_148 (by decide) (by assumption) ?_
  refine wl_iastoreN (np := 94) dX7_image_93 rfl (by first | (simp only [nIm, nIa, ← nI_succ]; exact rfl) | exact nI_z | exact nI_o | exact rfl) (by assumption) (by omega) (by first | decide | omega) ?_
  refine ld_a0 (np := 95) dX7_image_94 rfl ?_
  refine wl_getr (np := 98) dX7_image_95 rfl fl_X7_49 rfl (by assumption) (by assumption) ?_
  refine ld_i1 (np := 99) dX7_image_98 rfl ?_
  refine wl_iconst (np := 100) (v := nI 3) dX7_image_99 rfl (rfl) ?_
  refine wl_iadd (np := 101) dX7_image_100 rfl ?_
  refine ld_a0 (np := 102) dX7_image_101 rfl ?_
  refine wl_geti (np := 105) dX7_image_102 rfl fl_X7_151 (by decide) (by assumption) ?_
  refine wl_iastoreN (np := 106) dX7_image_105 rfl (by first | (simp only [nIm, nIa, ← nI_succ]; exact rfl) | exact nI_z | exact nI_o | exact rfl) (by assumption) (by omega) (by first | decide | omega) ?_
  refine ld_a0 (np := 107) dX7_image_106 rfl ?_
  refine wl_iconst (np := 108) (v := 1) dX7_image_107 rfl (rfl) ?_
  refine wl_putz (np := 111) dX7_image_108 rfl fl_X7_221 nf_7_23 rfl (by decide) (by assumption) ?_
  refine wl_iconst (np := 112) (v := 1) dX7_image_111 rfl (rfl) ?_
  refine wi_ret dX7_image_112 rfl (rfl) (Nat.le_refl _) (Nat.le_refl _) ?_
  refine ⟨rfl, ?_⟩
  rw [uI_uA, uI_uA, uI_uA, uI_uA]
  obtain ⟨v1, v2, v3, v4⟩ := hR
  refine ⟨⟨v1, ⟨gI_uI_self _ _ _ _, ?_⟩, v3, v4⟩, hFs.of (RfM.of rfl), RfM.of rfl, fun a ha => (gI_uI_ne (by omega)).trans (gI_uAn (by omega))⟩
  have e9 : ∀ F, gI (uI (uA me 149 F) 136 23 1) 149 = F := fun F => by rw [gI_uI_ne (by omega), gI_uAs]
  rw [e9]
  have q0 : ∀ i, i < 200 → G i = gI me 137 i := fun i hi => by
    rw [← hG, layF_out (by omega), layF_out (by omega), layF_out (by omega), layF_out (by omega), layF_out (by omega)]
    have := layF_in (I := gI me 149) (F := gI me 137) (k := 0) hi
    rw [Nat.zero_add] at this
    exact this
  have q1 : ∀ i, i < 25 → G (200 + i) = gI me 139 i := fun i hi => by
    rw [← hG, layF_out (by omega), layF_out (by omega), layF_out (by omega), layF_out (by omega), layF_in hi]
  have q2 : ∀ i, i < 12 → G (225 + i) = gI me 140 i := fun i hi => by
    rw [← hG, layF_out (by omega), layF_out (by omega), layF_out (by omega), layF_in hi]
  have q3 : ∀ i, i < 2 → G (237 + i) = gI me 141 i := fun i hi => by
    rw [← hG, layF_out (by omega), layF_out (by omega), layF_in hi]
  have q4 : ∀ i, i < 8 → G (239 + i) = gI me 142 i := fun i hi => by
    rw [← hG, layF_out (by omega), layF_in hi]
  have q5 : ∀ i, i < 8 → G (247 + i) = gI me 143 i := fun i hi => by
    rw [← hG, layF_in hi]
  clear hG
  have nu : ∀ x a b c e, x < 255 → upF (upF (upF (upF G (247 + 8) a) (247 + 8 + 1) b) (247 + 8 + 2) c) (247 + 8 + 3) e x = G x := fun x a b c e hx => by
    rw [upF_n (by omega), upF_n (by omega), upF_n (by omega), upF_n (by omega)]
  have w1 := v1.fr (N' := G) (T' := fun i => G (200 + i)) (H' := fun i => G (225 + i)) (L' := fun i => G (237 + i)) (A' := fun i => G (239 + i)) (B' := fun i => G (247 + i)) q0 q1 q2 q3 q4 q5
  have w2 := w1.fr (N' := upF (upF (upF (upF G (247 + 8) (gI me 136 0)) (247 + 8 + 1) (gI me 136 7)) (247 + 8 + 2) (gI me 136 8)) (247 + 8 + 3) (gI me 136 9)) (T' := fun i => upF (upF (upF (upF G (247 + 8) (gI me 136 0)) (247 + 8 + 1) (gI me 136 7)) (247 + 8 + 2) (gI me 136 8)) (247 + 8 + 3) (gI me 136 9) (200 + i)) (H' := fun i => upF (upF (upF (upF G (247 + 8) (gI me 136 0)) (247 + 8 + 1) (gI me 136 7)) (247 + 8 + 2) (gI me 136 8)) (247 + 8 + 3) (gI me 136 9) (225 + i)) (L' := fun i => upF (upF (upF (upF G (247 + 8) (gI me 136 0)) (247 + 8 + 1) (gI me 136 7)) (247 + 8 + 2) (gI me 136 8)) (247 + 8 + 3) (gI me 136 9) (237 + i)) (A' := fun i => upF (upF (upF (upF G (247 + 8) (gI me 136 0)) (247 + 8 + 1) (gI me 136 7)) (247 + 8 + 2) (gI me 136 8)) (247 + 8 + 3) (gI me 136 9) (239 + i)) (B' := fun i => upF (upF (upF (upF G (247 + 8) (gI me 136 0)) (247 + 8 + 1) (gI me 136 7)) (247 + 8 + 2) (gI me 136 8)) (247 + 8 + 3) (gI me 136 9) (247 + i)) (fun i hi => nu _ _ _ _ _ (by omega)) (fun i hi => nu _ _ _ _ _ (by omega)) (fun i hi => nu _ _ _ _ _ (by omega)) (fun i hi => nu _ _ _ _ _ (by omega)) (fun i hi => nu _ _ _ _ _ (by omega)) (fun i hi => nu _ _ _ _ _ (by omega))
  exact w2
set_option maxHeartbeats 4000000 in
set_option maxRecDepth 100000 in
theorem c_M_gives2 {a n k : Nat} (z0 : sh[136]? = some (.inl 7)) (g22 : gR me 136 22 = some 149) (x22 : sh[149]? = some (.inr (0, 270))) (xa : sh[a]? = some (.inr (0, n))) (ha : a ≠ 149) (ha2 : a ≠ 136) (hk : k + n ≤ 270) : CI d mX7_gives sh [.ref 136, .int (nI k), .ref a] me (fun x m => x = nI (k + n) ∧ m.2 = me.2 ∧ (∀ b, b ≠ a → gI m b = gI me b) ∧ ∀ i, i < n → gI m a i = gI me 149 (k + i)) := by
  refine (c_M_gives z0 g22 x22 xa ha ha2 hk).mono (fun x m h => ?_)
  obtain ⟨rfl, rfl⟩ := h
  refine ⟨rfl, rfl, fun b hb => gI_uAn hb, fun i hi => ?_⟩
  rw [gI_uAs]
  have := layF_in (I := gI me a) (F := fun i => gI me 149 (k + i)) (k := 0) hi
  rw [Nat.zero_add] at this
  exact this
set_option maxHeartbeats 4000000 in
set_option maxRecDepth 100000 in
theorem c_M_restore (hF : FixM sh me) (hR : RepM me S) (hd : 1 ≤ d) : CI d mX7_restore sh [.ref 136] me (fun x m => x = (sp_restore S).1 ∧ GoodM sh me m (sp_restore S).2) := by
  have hFs := hF
  obtain ⟨z0, ⟨x1, x2, x4, x5, x6, x10, x11, x12, x16, x17, x18, x21, x22, x24, x25, x26, x27⟩, ⟨g1, g2, g4, g5, g6, g10, g11, g12, g16, g17, g18, g21, g22, g24, g25, g26, g27⟩, gs⟩ := hF
  have hi := hR.2.1
  refine CI.mk (L := [.ref 136, .float 0]) (by decide) (Nat.le_of_ble_eq_true rfl) rfl ?_
  unfold sp_restore
  cases hV : S.2.1 with
  | none =>
    rw [hV] at hi
    refine ld_a0 (np := 1) dX7_restore_0 rfl ?_
    refine wl_geti (np := 4) dX7_restore_1 rfl fl_X7_221 (by decide) (by assumption) ?_
    refine wl_if_ne (np := 7) (tg := 10) dX7_restore_4 rfl rfl (fun c_4 => ?_) (fun c_4 => ?_)
    · exact absurd hi c_4
    · refine wl_bipush (np := 9) (v := -4) dX7_restore_7 rfl (by decide) ?_
      refine wi_ret dX7_restore_9 rfl (rfl) (Nat.le_refl _) (Nat.le_refl _) ?_
      exact ⟨rfl, GoodM.same hFs hR⟩
  | some V =>
    rw [hV] at hi
    obtain ⟨hi1, hi2⟩ := hi
    refine ld_a0 (np := 1) dX7_restore_0 rfl ?_
    refine wl_geti (np := 4) dX7_restore_1 rfl fl_X7_221 (by decide) (by assumption) ?_
    refine wl_if_ne (np := 7) (tg := 10) dX7_restore_4 rfl rfl (fun c_4 => ?_) (fun c_4 => ?_)
    · skip
      refine ld_a0 (np := 11) dX7_restore_10 rfl ?_
      refine wl_iconst (np := 12) (v := 0) dX7_restore_11 rfl (rfl) ?_
      refine ld_a0 (np := 13) dX7_restore_12 rfl ?_
      refine wl_getr (np := 16) dX7_restore_13 rfl fl_X7_7 rfl (by assumption) (by assumption) ?_
      refine ciV_2 (np := 19) dX7_restore_16 rfl lk_X7_224 (by assumption) (Nat.le_of_ble_eq_true rfl) (by omega) (Nat.le_refl _) (Nat.le_refl _) (c_M_gives2 (k := 0) (n := 200) z0 g22 x22 x1 (by omega) (by omega) (by omega)) (fun x_16 m_16 h_16 => ?_)
      obtain ⟨rfl, eR, en1, ei1⟩ := h_16
      obtain ⟨I1, R1⟩ := m_16
      obtain rfl : R1 = me.2 := eR
      refine st_i1 (np := 20) dX7_restore_19 rfl (by decide) rfl ?_
      refine ld_a0 (np := 21) dX7_restore_20 rfl ?_
      refine ld_i1 (np := 22) dX7_restore_21 rfl ?_
      refine ld_a0 (np := 23) dX7_restore_22 rfl ?_
      refine wl_getr (np := 26) dX7_restore_23 rfl fl_X7_19 rfl (by assumption) (by assumption) ?_
      refine ciV_2 (np := 29) dX7_restore_26 rfl lk_X7_224 (by assumption) (Nat.le_of_ble_eq_true rfl) (by omega) (Nat.le_refl _) (Nat.le_refl _) (c_M_gives2 (k := 200) (n := 25) z0 g22 x22 x4 (by omega) (by omega) (by omega)) (fun x_26 m_26 h_26 => ?_)
      obtain ⟨rfl, eR, en2, ei2⟩ := h_26
      obtain ⟨I2, R2⟩ := m_26
      obtain rfl : R2 = me.2 := eR
      refine st_i1 (np := 30) dX7_restore_29 rfl (by decide) rfl ?_
      refine ld_a0 (np := 31) dX7_restore_30 rfl ?_
      refine ld_i1 (np := 32) dX7_restore_31 rfl ?_
      refine ld_a0 (np := 33) dX7_restore_32 rfl ?_
      refine wl_getr (np := 36) dX7_restore_33 rfl fl_X7_22 rfl (by assumption) (by assumption) ?_
      refine ciV_2 (np := 39) dX7_restore_36 rfl lk_X7_224 (by assumption) (Nat.le_of_ble_eq_true rfl) (by omega) (Nat.le_refl _) (Nat.le_refl _) (c_M_gives2 (k := 225) (n := 12) z0 g22 x22 x5 (by omega) (by omega) (by omega)) (fun x_36 m_36 h_36 => ?_)
      obtain ⟨rfl, eR, en3, ei3⟩ := h_36
      obtain ⟨I3, R3⟩ := m_36
      obtain rfl : R3 = me.2 := eR
      refine st_i1 (np := 40) dX7_restore_39 rfl (by decide) rfl ?_
      refine ld_a0 (np := 41) dX7_restore_40 rfl ?_
      refine ld_i1 (np := 42) dX7_restore_41 rfl ?_
      refine ld_a0 (np := 43) dX7_restore_42 rfl ?_
      refine wl_getr (np := 46) dX7_restore_43 rfl fl_X7_25 rfl (by assumption) (by assumption) ?_
      refine ciV_2 (np := 49) dX7_restore_46 rfl lk_X7_224 (by assumption) (Nat.le_of_ble_eq_true rfl) (by omega) (Nat.le_refl _) (Nat.le_refl _) (c_M_gives2 (k := 237) (n := 2) z0 g22 x22 x6 (by omega) (by omega) (by omega)) (fun x_46 m_46 h_46 => ?_)
      obtain ⟨rfl, eR, en4, ei4⟩ := h_46
      obtain ⟨I4, R4⟩ := m_46
      obtain rfl : R4 = me.2 := eR
      refine st_i1 (np := 50) dX7_restore_49 rfl (by decide) rfl ?_
      refine ld_a0 (np := 51) dX7_restore_50 rfl ?_
      refine ld_i1 (np := 52) dX7_restore_51 rfl ?_
      refine ld_a0 (np := 53) dX7_restore_52 rfl ?_
      refine wl_getr (np := 56) dX7_restore_53 rfl fl_X7_28 rfl (by assumption) (by assumption) ?_
      refine ciV_2 (np := 59) dX7_restore_56 rfl lk_X7_224 (by assumption) (Nat.le_of_ble_eq_true rfl) (by omega) (Nat.le_refl _) (Nat.le_refl _) (c_M_gives2 (k := 239) (n := 8) z0 g22 x22 x10 (by omega) (by omega) (by omega)) (fun x_56 m_56 h_56 => ?_)
      obtain ⟨rfl, eR, en5, ei5⟩ := h_56
      obtain ⟨I5, R5⟩ := m_56
      obtain rfl : R5 = me.2 := eR
      refine st_i1 (np := 60) dX7_restore_59 rfl (by decide) rfl ?_
      refine ld_a0 (np := 61) dX7_restore_60 rfl ?_
      refine ld_i1 (np := 62) dX7_restore_61 rfl ?_
      refine ld_a0 (np := 63) dX7_restore_62 rfl ?_
      refine wl_getr (np := 66) dX7_restore_63 rfl fl_X7_31 rfl (by assumption) (by assumption) ?_
      refine ciV_2 (np := 69) dX7_restore_66 rfl lk_X7_224 (by assumption) (Nat.le_of_ble_eq_true rfl) (by omega) (Nat.le_refl _) (Nat.le_refl _) (c_M_gives2 (k := 247) (n := 8) z0 g22 x22 x11 (by omega) (by omega) (by omega)) (fun x_66 m_66 h_66 => ?_)
      obtain ⟨rfl, eR, en6, ei6⟩ := h_66
      obtain ⟨I6, R6⟩ := m_66
      obtain rfl : R6 = me.2 := eR
      have kn : ∀ b, b ≠ 137 → b ≠ 139 → b ≠ 140 → b ≠ 141 → b ≠ 142 → b ≠ 143 → gI (I6, me.2) b = gI me b := fun b h1 h2 h3 h4 h5 h6 => (en6 b h6).trans ((en5 b h5).trans ((en4 b h4).trans ((en3 b h3).trans ((en2 b h2).trans (en1 b h1)))))
      have k9 := kn 149 (by omega) (by omega) (by omega) (by omega) (by omega) (by omega)
      have k6 := kn 136 (by omega) (by omega) (by omega) (by omega) (by omega) (by omega)
      have w1 := hi2.fr (fun i hi => ((congrFun (en6 137 (by omega)) i).trans ((congrFun (en5 137 (by omega)) i).trans ((congrFun (en4 137 (by omega)) i).trans ((congrFun (en3 137 (by omega)) i).trans ((congrFun (en2 137 (by omega)) i).trans ((ei1 i hi).trans (by rw [Nat.zero_add])))))))) (fun i hi => ((congrFun (en6 139 (by omega)) i).trans ((congrFun (en5 139 (by omega)) i).trans ((congrFun (en4 139 (by omega)) i).trans ((congrFun (en3 139 (by omega)) i).trans ((ei2 i hi).trans (congrFun (en1 149 (by omega)) _))))))) (fun i hi => ((congrFun (en6 140 (by omega)) i).trans ((congrFun (en5 140 (by omega)) i).trans ((congrFun (en4 140 (by omega)) i).trans ((ei3 i hi).trans ((congrFun (en2 149 (by omega)) _).trans (congrFun (en1 149 (by omega)) _))))))) (fun i hi => ((congrFun (en6 141 (by omega)) i).trans ((congrFun (en5 141 (by omega)) i).trans ((ei4 i hi).trans ((congrFun (en3 149 (by omega)) _).trans ((congrFun (en2 149 (by omega)) _).trans (congrFun (en1 149 (by omega)) _))))))) (fun i hi => ((congrFun (en6 142 (by omega)) i).trans ((ei5 i hi).trans ((congrFun (en4 149 (by omega)) _).trans ((congrFun (en3 149 (by omega)) _).trans ((congrFun (en2 149 (by omega)) _).trans (congrFun (en1 149 (by omega)) _))))))) (fun i hi => ((ei6 i hi).trans ((congrFun (en5 149 (by omega)) _).trans ((congrFun (en4 149 (by omega)) _).trans ((congrFun (en3 149 (by omega)) _).trans ((congrFun (en2 149 (by omega)) _).trans (congrFun (en1 149 (by omega)) _)))))))
      refine st_i1 (np := 70) dX7_restore_69 rfl (by decide) rfl ?_
      refine ld_a0 (np := 71) dX7_restore_70 rfl ?_
      refine ld_a0 (np := 72) dX7_restore_71 rfl ?_
      refine wl_getr (np := 75) dX7_restore_72 rfl fl_X7_49 rfl (by assumption) (by assumption) ?_
      refine ld_i1 (np := 76) dX7_restore_75 rfl ?_
      refine wl_ialoadN (np := 77) dX7_restore_76 rfl (by first | (simp only [nIm, nIa, ← nI_succ]; exact rfl) | exact nI_z | exact nI_o | exact rfl) (by assumption) (by omega) (by first | decide | omega) ?_
      refine wl_puti (np := 80) dX7_restore_77 rfl fl_X7_64 nf_7_0 rfl (by assumption) ?_
      refine ld_a0 (np := 81) dX7_restore_80 rfl ?_
      refine ld_a0 (np := 82) dX7_restore_81 rfl ?_
      refine wl_getr (np := 85) dX7_restore_82 rfl fl_X7_49 rfl (by assumption) (by assumption) ?_
      refine ld_i1 (np := 86) dX7_restore_85 rfl ?_
      refine wl_iconst (np := 87) (v := 1) dX7_restore_86 rfl (rfl) ?_
      refine wl_iadd (np := 88) dX7_restore_87 rfl ?_
      refine wl_ialoadN (np := 89) dX7_restore_88 rfl (by first | (simp only [nIm, nIa, ← nI_succ]; exact rfl) | exact nI_z | exact nI_o | exact rfl) (by assumption) (by omega) (by first | decide | omega) ?_
      refine wl_puti (np := 92) dX7_restore_89 rfl fl_X7_145 nf_7_7 rfl (by assumption) ?_
      refine ld_a0 (np := 93) dX7_restore_92 rfl ?_
      refine ld_a0 (np := 94) dX7_restore_93 rfl ?_
      refine wl_getr (np := 97) dX7_restore_94 rfl fl_X7_49 rfl (by assumption) (by assumption) ?_
      refine ld_i1 (np := 98) dX7_restore_97 rfl ?_
      refine wl_iconst (np := 99) (v := nI 2) dX7_restore_98 rfl (rfl) ?_
      refine wl_iadd (np := 100) dX7_restore_99 rfl ?_
      refine wl_ialoadN (np := 101) dX7_restore_100 rfl (by first | (simp only [nIm, nIa, ← nI_succ]; exact rfl) | exact nI_z | exact nI_o | exact rfl) (by assumption) (by omega) (by first | decide | omega) ?_
      refine wl_puti (np := 104) dX7_restore_101 rfl fl_X7_148 nf_7_8 rfl (by assumption) ?_
      refine ld_a0 (np := 105) dX7_restore_104 rfl ?_
      refine ld_a0 (np := 106) dX7_restore_105 rfl ?_
      refine wl_getr (np := 109) dX7_restore_106 rfl fl_X7_49 rfl (by assumption) (by assumption) ?_
      refine ld_i1 (np := 110) dX7_restore_109 rfl ?_
      refine wl_iconst (np := 111) (v := nI 3) dX7_restore_110 rfl (rfl) ?_
      refine wl_iadd (np := 112) dX7_restore_111 rfl ?_
      refine wl_ialoadN (np := 113) dX7_restore_112 rfl (by first | (simp only [nIm, nIa, ← nI_succ]; exact rfl) | exact nI_z | exact nI_o | exact rfl) (by assumption) (by omega) (by first | decide | omega) ?_
      refine wl_puti (np := 116) dX7_restore_113 rfl fl_X7_151 nf_7_9 rfl (by assumption) ?_
      refine wl_iconst (np := 117) (v := 1) dX7_restore_116 rfl (rfl) ?_
      refine wi_ret dX7_restore_117 rfl (rfl) (Nat.le_refl _) (Nat.le_refl _) ?_
      refine ⟨rfl, GoodM.now hFs hR (RfM.of rfl) (fun a ha => ?_) ⟨?_, ?_, kn _ (by omega) (by omega) (by omega) (by omega) (by omega) (by omega), kn _ (by omega) (by omega) (by omega) (by omega) (by omega) (by omega), kn _ (by omega) (by omega) (by omega) (by omega) (by omega) (by omega), kn _ (by omega) (by omega) (by omega) (by omega) (by omega) (by omega), kn _ (by omega) (by omega) (by omega) (by omega) (by omega) (by omega)⟩ ?_⟩
      · exact (gI_uI_ne (by omega)).trans ((gI_uI_ne (by omega)).trans ((gI_uI_ne (by omega)).trans ((gI_uI_ne (by omega)).trans (kn a (by omega) (by omega) (by omega) (by omega) (by omega) (by omega)))))
      · rw [gI_uI_nb (by omega), gI_uI_nb (by omega), gI_uI_nb (by omega), gI_uI_nb (by omega), k6]
      · rw [gI_uI_nb (by omega), gI_uI_nb (by omega), gI_uI_nb (by omega), gI_uI_nb (by omega), k6]
      · obtain ⟨u1, u2, u3, u4, u5, u6, u7, u8, u9, u10, u11, u12⟩ := w1
        refine ⟨u1, u2, ?_, u4, u5, u6, ?_, ?_, u9, ?_, u11, u12⟩
        · rw [gI_uI_nb (by omega), gI_uI_nb (by omega), gI_uI_nb (by omega), gI_uI_self, k9]
          exact u3
        · rw [gI_uI_nb (by omega), gI_uI_self]
          exact (congrFun k9 257).trans u7
        · rw [gI_uI_nb (by omega), gI_uI_nb (by omega), gI_uI_self]
          exact (congrFun k9 256).trans u8
        · rw [gI_uI_self]
          exact (congrFun k9 258).trans u10
    · rw [hi1] at c_4
      exact absurd c_4 (by decide)
end M10
