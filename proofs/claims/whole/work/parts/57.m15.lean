section M15
variable {sh : List Shp} {me : Mem} {d kk : Nat} {S : St}
set_option maxHeartbeats 4000000 in
set_option maxRecDepth 100000 in
theorem c_M_outer {p n : Nat} (z0 : sh[136]? = some (.inl 7)) (g1 : gR me 136 1 = some 137) (x1 : sh[137]? = some (.inr (0, 200))) (hw : gI me 137 (40 * p + 3) = nI n) (hn : 0 < n) (hp : p < 5) : CI d mX7_outer sh [.ref 136, .int (nI p)] me (fun x m => x = nI (40 * p + 8 + 4 * (n - 1)) ∧ m = me) := by
  have e1 : nI n - 1 = nI (n - 1) := by
    obtain ⟨k, rfl⟩ : ∃ k, n = k + 1 := ⟨n - 1, by omega⟩
    exact nI_pred k
  refine CI.mk (L := [.ref 136, .int (nI p)]) (by decide) (Nat.le_of_ble_eq_true rfl) rfl ?_
  refine wl_bipush (np := 2) (v := nI 40) dX7_outer_0 rfl (by decide) ?_
  refine ld_i1 (np := 3) dX7_outer_2 rfl ?_
  refine wl_imul (np := 4) dX7_outer_3 rfl ?_
  refine wl_bipush (np := 6) (v := nI 8) dX7_outer_4 rfl (by decide) ?_
  refine wl_iadd (np := 7) dX7_outer_6 rfl ?_
  refine wl_iconst (np := 8) (v := nI 4) dX7_outer_7 rfl (rfl) ?_
  refine ld_a0 (np := 9) dX7_outer_8 rfl ?_
  refine wl_getr (np := 12) dX7_outer_9 rfl fl_X7_7 rfl (by assumption) (by assumption) ?_
  refine wl_bipush (np := 14) (v := nI 40) dX7_outer_12 rfl (by decide) ?_
  refine ld_i1 (np := 15) dX7_outer_14 rfl ?_
  refine wl_imul (np := 16) dX7_outer_15 rfl ?_
  refine wl_iconst (np := 17) (v := nI 3) dX7_outer_16 rfl (rfl) ?_
  refine wl_iadd (np := 18) dX7_outer_17 rfl ?_
  refine wl_ialoadN (np := 19) dX7_outer_18 rfl (by first | (simp only [nIm, nIa, ← nI_succ]; exact rfl) | exact nI_z | exact nI_o | exact rfl) (by assumption) (by omega) (by first | decide | omega) ?_
  refine wl_iconst (np := 20) (v := 1) dX7_outer_19 rfl (rfl) ?_
  refine wl_isub (np := 21) dX7_outer_20 rfl ?_
  refine wl_imul (np := 22) dX7_outer_21 rfl ?_
  refine wl_iadd (np := 23) dX7_outer_22 rfl ?_
  refine wi_ret dX7_outer_23 rfl (rfl) (Nat.le_refl _) (Nat.le_refl _) ?_
  rw [hw, e1]
  simp only [nIm, nIa]
  exact ⟨trivial, trivial⟩
set_option maxHeartbeats 4000000 in
set_option maxRecDepth 100000 in
theorem c_M_gains {p q : Nat} {P Q : Prs} (z0 : sh[136]? = some (.inl 7)) (g1 : gR me 136 1 = some 137) (x1 : sh[137]? = some (.inr (0, 200))) (g4 : gR me 136 4 = some 139) (x4 : sh[139]? = some (.inr (0, 25))) (hP : RepQ (gI me 137) p P) (hQ : RepQ (gI me 137) q Q) (hT : RepT (gI me 139) p P) (lP : lenP P) (lQ : lenP Q) (nP : 0 < P.2.1.length) (nQ : 0 < Q.2.1.length) (hp : p < 5) (hq : q < 5) (hd : 1 ≤ d) : CI d mX7_gains sh [.ref 136, .int (nI p), .int (nI q)] me (fun x m => x = gainS P Q ∧ m = me) := by
  obtain ⟨cp, hcp⟩ : ∃ co, P.2.1[P.2.1.length - 1]? = some co := ⟨_, List.getElem?_eq_getElem (by omega)⟩
  obtain ⟨cq, hcq⟩ : ∃ co, Q.2.1[Q.2.1.length - 1]? = some co := ⟨_, List.getElem?_eq_getElem (by omega)⟩
  have p8 := hP.2.2.2.2.1
  have q8 := hQ.2.2.2.2.1
  obtain ⟨l1, hl1, el1⟩ := lP cp (List.mem_of_getElem? hcp)
  obtain ⟨l2, hl2, el2⟩ := lQ cq (List.mem_of_getElem? hcq)
  have ep : gI me 137 (40 * p + 8 + 4 * (P.2.1.length - 1)) = nI l1 := by rw [(hP.2.2.2.2.2.2.2 _ cp hcp).1, el1]
  have eq' : gI me 137 (40 * q + 8 + 4 * (Q.2.1.length - 1)) = nI l2 := by rw [(hQ.2.2.2.2.2.2.2 _ cq hcq).1, el2]
  refine CI.mk (L := [.ref 136, .int (nI p), .int (nI q)]) (by decide) (Nat.le_of_ble_eq_true rfl) rfl ?_
  refine ld_a0 (np := 1) dX7_gains_0 rfl ?_
  refine wl_getr (np := 4) dX7_gains_1 rfl fl_X7_19 rfl (by assumption) (by assumption) ?_
  refine wl_iconst (np := 5) (v := nI 5) dX7_gains_4 rfl (rfl) ?_
  refine ld_i1 (np := 6) dX7_gains_5 rfl ?_
  refine wl_imul (np := 7) dX7_gains_6 rfl ?_
  refine ld_a0 (np := 8) dX7_gains_7 rfl ?_
  refine wl_getr (np := 11) dX7_gains_8 rfl fl_X7_7 rfl (by assumption) (by assumption) ?_
  refine ld_a0 (np := 12) dX7_gains_11 rfl ?_
  refine ld_i1 (np := 13) dX7_gains_12 rfl ?_
  refine ciV_1 (np := 16) dX7_gains_13 rfl lk_X7_180 (by assumption) (Nat.le_of_ble_eq_true rfl) (by omega) (Nat.le_refl _) (Nat.le_refl _) (c_M_outer z0 g1 x1 hP.2.2.2.1 nP hp) (fun x_13 m_13 h_13 => ?_)
  obtain ⟨rfl, q_13⟩ := h_13
  have q_13 := q_13.symm
  subst q_13
  refine wl_ialoadN (np := 17) dX7_gains_16 rfl (by first | (simp only [ep, eq',nIm, nIa, ← nI_succ]; exact rfl) | exact nI_z | exact nI_o | exact rfl) (by assumption) (by omega) (by first | decide | omega) ?_
  refine wl_iadd (np := 18) dX7_gains_17 rfl ?_
  refine wl_ialoadN (np := 19) dX7_gains_18 rfl (by first | (simp only [ep, eq',nIm, nIa, ← nI_succ]; exact rfl) | exact nI_z | exact nI_o | exact rfl) (by assumption) (by omega) (by first | decide | omega) ?_
  refine ld_a0 (np := 20) dX7_gains_19 rfl ?_
  refine wl_getr (np := 23) dX7_gains_20 rfl fl_X7_19 rfl (by assumption) (by assumption) ?_
  refine wl_iconst (np := 24) (v := nI 5) dX7_gains_23 rfl (rfl) ?_
  refine ld_i1 (np := 25) dX7_gains_24 rfl ?_
  refine wl_imul (np := 26) dX7_gains_25 rfl ?_
  refine ld_a0 (np := 27) dX7_gains_26 rfl ?_
  refine wl_getr (np := 30) dX7_gains_27 rfl fl_X7_7 rfl (by assumption) (by assumption) ?_
  refine ld_a0 (np := 31) dX7_gains_30 rfl ?_
  refine ld_i2 (np := 32) dX7_gains_31 rfl ?_
  refine ciV_1 (np := 35) dX7_gains_32 rfl lk_X7_180 (by assumption) (Nat.le_of_ble_eq_true rfl) (by omega) (Nat.le_refl _) (Nat.le_refl _) (c_M_outer z0 g1 x1 hQ.2.2.2.1 nQ hq) (fun x_32 m_32 h_32 => ?_)
  obtain ⟨rfl, q_32⟩ := h_32
  have q_32 := q_32.symm
  subst q_32
  refine wl_ialoadN (np := 36) dX7_gains_35 rfl (by first | (simp only [ep, eq',nIm, nIa, ← nI_succ]; exact rfl) | exact nI_z | exact nI_o | exact rfl) (by assumption) (by omega) (by first | decide | omega) ?_
  refine wl_iadd (np := 37) dX7_gains_36 rfl ?_
  refine wl_ialoadN (np := 38) dX7_gains_37 rfl (by first | (simp only [ep, eq',nIm, nIa, ← nI_succ]; exact rfl) | exact nI_z | exact nI_o | exact rfl) (by assumption) (by omega) (by first | decide | omega) ?_
  refine wl_isub (np := 39) dX7_gains_38 rfl ?_
  refine wi_ret dX7_gains_39 rfl (rfl) (Nat.le_refl _) (Nat.le_refl _) ?_
  refine ⟨?_, rfl⟩
  unfold gainS lastL
  rw [if_neg (by omega), hcp, hcq]
  dsimp only [Option.getD_some]
  rw [el1, el2, nI_clamp (by omega), nI_clamp (by omega), hT l1 hl1, hT l2 hl2]
theorem lt1_iff (x : Int32) : x < 1 ↔ ¬ 0 < x := by
  rw [Int32.lt_iff_toInt_lt, Int32.lt_iff_toInt_lt]
  have e0 : (0 : Int32).toInt = 0 := rfl
  have e1 : (1 : Int32).toInt = 1 := rfl
  omega
set_option maxHeartbeats 4000000 in
set_option maxRecDepth 100000 in
theorem c_M_saved2 {p q : Nat} {P Q : Prs} (hF : FixM sh me) (hP : RepQ (gI me 137) p P) (hQ : RepQ (gI me 137) q Q) (hT : RepT (gI me 139) p P) (hT2 : RepT (gI me 139) q Q) (lP : lenP P) (lQ : lenP Q) (nP : 0 < P.2.1.length) (nQ : 0 < Q.2.1.length) (hp : p < 5) (hq : q < 5) (hd : 2 ≤ d) : CI d mX7_saved sh [.ref 136, .int (nI p), .int (nI q), .int (-1)] me (fun x m => x = sav2 P Q ∧ m = me) := by
  have hFs := hF
  obtain ⟨z0, ⟨x1, x2, x4, x5, x6, x10, x11, x12, x16, x17, x18, x21, x22, x24, x25, x26, x27⟩, ⟨g1, g2, g4, g5, g6, g10, g11, g12, g16, g17, g18, g21, g22, g24, g25, g26, g27⟩, gs⟩ := hF
  refine CI.mk (L := [.ref 136, .int (nI p), .int (nI q), .int (-1), .float 0, .float 0, .float 0, .float 0]) (by decide) (Nat.le_of_ble_eq_true rfl) rfl ?_
  unfold sav2
  have bad : ¬ (0 < gainS P Q ∧ 0 < gainS Q P) → ∀ L4, Wa mX7_saved (0, fun _ => 0) d 0 0 sh.length (PI sh (fun x m => x = (if 0 < gainS P Q ∧ 0 < gainS Q P then gainS P Q + gainS Q P else 0) ∧ m = me)) 62 L4 [] sh me 0 0 := by
    intro hb L4
    rw [if_neg hb]
    refine wl_iconst (np := 63) (v := 0) dX7_saved_62 rfl (rfl) ?_
    refine wl_goto (tg := 82) dX7_saved_63 rfl ?_
    refine wi_ret dX7_saved_82 rfl (rfl) (Nat.le_refl _) (Nat.le_refl _) ?_
    exact ⟨rfl, rfl⟩
  refine ld_i3 (np := 1) dX7_saved_0 rfl ?_
  refine wl_if_ge (np := 4) (tg := 8) dX7_saved_1 rfl rfl (fun c_1 => ?_) (fun c_1 => ?_)
  · exact absurd c_1 (by decide)
  · refine ld_i2 (np := 5) dX7_saved_4 rfl ?_
    refine wl_goto (tg := 9) dX7_saved_5 rfl ?_
    refine st_i4 (np := 11) dX7_saved_9 rfl (by decide) rfl ?_
    refine ld_a0 (np := 12) dX7_saved_11 rfl ?_
    refine ld_i2 (np := 13) dX7_saved_12 rfl ?_
    refine ld_i1 (np := 14) dX7_saved_13 rfl ?_
    refine ciV_2 (np := 17) dX7_saved_14 rfl lk_X7_183 (by assumption) (Nat.le_of_ble_eq_true rfl) (by omega) (Nat.le_refl _) (Nat.le_refl _) (c_M_gains z0 g1 x1 g4 x4 hQ hP hT2 lQ lP nQ nP hq hp (by omega)) (fun x_14 m_14 h_14 => ?_)
    obtain ⟨rfl, q_14⟩ := h_14
    have q_14 := q_14.symm
    subst q_14
    refine st_i5 (np := 19) dX7_saved_17 rfl (by decide) rfl ?_
    refine ld_i3 (np := 20) dX7_saved_19 rfl ?_
    refine wl_if_ge (np := 23) (tg := 27) dX7_saved_20 rfl rfl (fun c_20 => ?_) (fun c_20 => ?_)
    · exact absurd c_20 (by decide)
    · refine wl_iconst (np := 24) (v := 1) dX7_saved_23 rfl (rfl) ?_
      refine wl_goto (tg := 33) dX7_saved_24 rfl ?_
      refine st_i6 (np := 35) dX7_saved_33 rfl (by decide) rfl ?_
      refine ld_a0 (np := 36) dX7_saved_35 rfl ?_
      refine ld_i1 (np := 37) dX7_saved_36 rfl ?_
      refine ld_i4 (np := 39) dX7_saved_37 rfl ?_
      refine ciV_2 (np := 42) dX7_saved_39 rfl lk_X7_183 (by assumption) (Nat.le_of_ble_eq_true rfl) (by omega) (Nat.le_refl _) (Nat.le_refl _) (c_M_gains z0 g1 x1 g4 x4 hP hQ hT lP lQ nP nQ hp hq (by omega)) (fun x_39 m_39 h_39 => ?_)
      obtain ⟨rfl, q_39⟩ := h_39
      have q_39 := q_39.symm
      subst q_39
      refine st_i7 (np := 44) dX7_saved_42 rfl (by decide) rfl ?_
      refine ld_i5 (np := 46) dX7_saved_44 rfl ?_
      refine wl_iconst (np := 47) (v := 1) dX7_saved_46 rfl (rfl) ?_
      refine wl_icmp_lt (np := 50) (tg := 62) dX7_saved_47 rfl rfl (fun c_47 => ?_) (fun c_47 => ?_)
      · exact bad (fun h => (lt1_iff _).mp c_47 h.2) _
      · refine ld_i6 (np := 52) dX7_saved_50 rfl ?_
        refine wl_iconst (np := 53) (v := 1) dX7_saved_52 rfl (rfl) ?_
        refine wl_icmp_lt (np := 56) (tg := 62) dX7_saved_53 rfl rfl (fun c_53 => ?_) (fun c_53 => ?_)
        · exact absurd c_53 (by decide)
        · refine ld_i7 (np := 58) dX7_saved_56 rfl ?_
          refine wl_iconst (np := 59) (v := 1) dX7_saved_58 rfl (rfl) ?_
          refine wl_icmp_ge (np := 62) (tg := 66) dX7_saved_59 rfl rfl (fun c_59 => ?_) (fun c_59 => ?_)
          · rw [if_pos ⟨Classical.byContradiction fun q => Int32.not_lt.mpr c_59 ((lt1_iff _).mpr q), Classical.byContradiction fun q => c_47 ((lt1_iff _).mpr q)⟩]
            refine ld_i5 (np := 68) dX7_saved_66 rfl ?_
            refine ld_i7 (np := 70) dX7_saved_68 rfl ?_
            refine wl_iadd (np := 71) dX7_saved_70 rfl ?_
            refine ld_i3 (np := 72) dX7_saved_71 rfl ?_
            refine wl_if_ge (np := 75) (tg := 79) dX7_saved_72 rfl rfl (fun c_72 => ?_) (fun c_72 => ?_)
            · exact absurd c_72 (by decide)
            · refine wl_iconst (np := 76) (v := 0) dX7_saved_75 rfl (rfl) ?_
              refine wl_goto (tg := 81) dX7_saved_76 rfl ?_
              refine wl_iadd (np := 82) dX7_saved_81 rfl ?_
              refine wi_ret dX7_saved_82 rfl (rfl) (Nat.le_refl _) (Nat.le_refl _) ?_
              exact ⟨by rw [Int32.add_zero, Int32.add_comm], rfl⟩
          · exact bad (fun h => (lt1_iff _).mp (Int32.not_le.mp c_59) h.1) _
set_option maxHeartbeats 4000000 in
set_option maxRecDepth 100000 in
theorem c_M_saved3 {p q r : Nat} {P Q R : Prs} (hF : FixM sh me) (hP : RepQ (gI me 137) p P) (hQ : RepQ (gI me 137) q Q) (hR : RepQ (gI me 137) r R) (hT : RepT (gI me 139) p P) (hT2 : RepT (gI me 139) q Q) (hT3 : RepT (gI me 139) r R) (lP : lenP P) (lQ : lenP Q) (lR : lenP R) (nP : 0 < P.2.1.length) (nQ : 0 < Q.2.1.length) (nR : 0 < R.2.1.length) (hp : p < 5) (hq : q < 5) (hr : r < 5) (hd : 2 ≤ d) : CI d mX7_saved sh [.ref 136, .int (nI p), .int (nI q), .int (nI r)] me (fun x m => x = sav3 P Q R ∧ m = me) := by
  have hFs := hF
  obtain ⟨z0, ⟨x1, x2, x4, x5, x6, x10, x11, x12, x16, x17, x18, x21, x22, x24, x25, x26, x27⟩, ⟨g1, g2, g4, g5, g6, g10, g11, g12, g16, g17, g18, g21, g22, g24, g25, g26, g27⟩, gs⟩ := hF
  have hr0 : (0 : Int32) ≤ nI r := nI_pos' (by omega)
  refine CI.mk (L := [.ref 136, .int (nI p), .int (nI q), .int (nI r), .float 0, .float 0, .float 0, .float 0]) (by decide) (Nat.le_of_ble_eq_true rfl) rfl ?_
  unfold sav3
  have bad : ¬ (0 < gainS P R ∧ 0 < gainS Q P ∧ 0 < gainS R Q) → ∀ L4, Wa mX7_saved (0, fun _ => 0) d 0 0 sh.length (PI sh (fun x m => x = (if 0 < gainS P R ∧ 0 < gainS Q P ∧ 0 < gainS R Q then gainS P R + gainS Q P + gainS R Q else 0) ∧ m = me)) 62 L4 [] sh me 0 0 := by
    intro hb L4
    rw [if_neg hb]
    refine wl_iconst (np := 63) (v := 0) dX7_saved_62 rfl (rfl) ?_
    refine wl_goto (tg := 82) dX7_saved_63 rfl ?_
    refine wi_ret dX7_saved_82 rfl (rfl) (Nat.le_refl _) (Nat.le_refl _) ?_
    exact ⟨rfl, rfl⟩
  refine ld_i3 (np := 1) dX7_saved_0 rfl ?_
  refine wl_if_ge (np := 4) (tg := 8) dX7_saved_1 rfl rfl (fun c_1 => ?_) (fun c_1 => ?_)
  · refine ld_i3 (np := 9) dX7_saved_8 rfl ?_
    refine st_i4 (np := 11) dX7_saved_9 rfl (by decide) rfl ?_
    refine ld_a0 (np := 12) dX7_saved_11 rfl ?_
    refine ld_i2 (np := 13) dX7_saved_12 rfl ?_
    refine ld_i1 (np := 14) dX7_saved_13 rfl ?_
    refine ciV_2 (np := 17) dX7_saved_14 rfl lk_X7_183 (by assumption) (Nat.le_of_ble_eq_true rfl) (by omega) (Nat.le_refl _) (Nat.le_refl _) (c_M_gains z0 g1 x1 g4 x4 hQ hP hT2 lQ lP nQ nP hq hp (by omega)) (fun x_14 m_14 h_14 => ?_)
    obtain ⟨rfl, q_14⟩ := h_14
    have q_14 := q_14.symm
    subst q_14
    refine st_i5 (np := 19) dX7_saved_17 rfl (by decide) rfl ?_
    refine ld_i3 (np := 20) dX7_saved_19 rfl ?_
    refine wl_if_ge (np := 23) (tg := 27) dX7_saved_20 rfl rfl (fun c_20 => ?_) (fun c_20 => ?_)
    · refine ld_a0 (np := 28) dX7_saved_27 rfl ?_
      refine ld_i3 (np := 29) dX7_saved_28 rfl ?_
      refine ld_i2 (np := 30) dX7_saved_29 rfl ?_
      refine ciV_2 (np := 33) dX7_saved_30 rfl lk_X7_183 (by assumption) (Nat.le_of_ble_eq_true rfl) (by omega) (Nat.le_refl _) (Nat.le_refl _) (c_M_gains z0 g1 x1 g4 x4 hR hQ hT3 lR lQ nR nQ hr hq (by omega)) (fun x_30 m_30 h_30 => ?_)
      obtain ⟨rfl, q_30⟩ := h_30
      have q_30 := q_30.symm
      subst q_30
      refine st_i6 (np := 35) dX7_saved_33 rfl (by decide) rfl ?_
      refine ld_a0 (np := 36) dX7_saved_35 rfl ?_
      refine ld_i1 (np := 37) dX7_saved_36 rfl ?_
      refine ld_i4 (np := 39) dX7_saved_37 rfl ?_
      refine ciV_2 (np := 42) dX7_saved_39 rfl lk_X7_183 (by assumption) (Nat.le_of_ble_eq_true rfl) (by omega) (Nat.le_refl _) (Nat.le_refl _) (c_M_gains z0 g1 x1 g4 x4 hP hR hT lP lR nP nR hp hr (by omega)) (fun x_39 m_39 h_39 => ?_)
      obtain ⟨rfl, q_39⟩ := h_39
      have q_39 := q_39.symm
      subst q_39
      refine st_i7 (np := 44) dX7_saved_42 rfl (by decide) rfl ?_
      refine ld_i5 (np := 46) dX7_saved_44 rfl ?_
      refine wl_iconst (np := 47) (v := 1) dX7_saved_46 rfl (rfl) ?_
      refine wl_icmp_lt (np := 50) (tg := 62) dX7_saved_47 rfl rfl (fun c_47 => ?_) (fun c_47 => ?_)
      · exact bad (fun h => (lt1_iff _).mp c_47 h.2.1) _
      · refine ld_i6 (np := 52) dX7_saved_50 rfl ?_
        refine wl_iconst (np := 53) (v := 1) dX7_saved_52 rfl (rfl) ?_
        refine wl_icmp_lt (np := 56) (tg := 62) dX7_saved_53 rfl rfl (fun c_53 => ?_) (fun c_53 => ?_)
        · exact bad (fun h => (lt1_iff _).mp c_53 h.2.2) _
        · refine ld_i7 (np := 58) dX7_saved_56 rfl ?_
          refine wl_iconst (np := 59) (v := 1) dX7_saved_58 rfl (rfl) ?_
          refine wl_icmp_ge (np := 62) (tg := 66) dX7_saved_59 rfl rfl (fun c_59 => ?_) (fun c_59 => ?_)
          · rw [if_pos ⟨Classical.byContradiction fun q => Int32.not_lt.mpr c_59 ((lt1_iff _).mpr q), Classical.byContradiction fun q => c_47 ((lt1_iff _).mpr q), Classical.byContradiction fun q => c_53 ((lt1_iff _).mpr q)⟩]
            refine ld_i5 (np := 68) dX7_saved_66 rfl ?_
            refine ld_i7 (np := 70) dX7_saved_68 rfl ?_
            refine wl_iadd (np := 71) dX7_saved_70 rfl ?_
            refine ld_i3 (np := 72) dX7_saved_71 rfl ?_
            refine wl_if_ge (np := 75) (tg := 79) dX7_saved_72 rfl rfl (fun c_72 => ?_) (fun c_72 => ?_)
            · refine ld_i6 (np := 81) dX7_saved_79 rfl ?_
              refine wl_iadd (np := 82) dX7_saved_81 rfl ?_
              refine wi_ret dX7_saved_82 rfl (rfl) (Nat.le_refl _) (Nat.le_refl _) ?_
              exact ⟨by rw [Int32.add_comm (gainS Q P)], rfl⟩
            · exact absurd hr0 c_72
          · exact bad (fun h => (lt1_iff _).mp (Int32.not_le.mp c_59) h.1) _
    · exact absurd hr0 c_20
  · exact absurd hr0 c_1
def sw2F (N : Nat → Int32) (a b k : Nat) : Nat → Int32 := fun x => if a ≤ x ∧ x < a + k then N (b + (x - a)) else if b ≤ x ∧ x < b + k then N (a + (x - b)) else N x
def sw3F (N : Nat → Int32) (a b c k : Nat) : Nat → Int32 := fun x => if a ≤ x ∧ x < a + k then N (c + (x - a)) else if b ≤ x ∧ x < b + k then N (a + (x - b)) else if c ≤ x ∧ x < c + k then N (b + (x - c)) else N x
theorem rep_setLast {N F : Nat → Int32} {p o : Nat} {P Q : Prs} (hP : RepQ N p P) (hn : 0 < P.2.1.length) (hc : F (40 * p + 8 + 4 * (P.2.1.length - 1)) = (lastC Q).1 ∧ F (40 * p + 8 + 4 * (P.2.1.length - 1) + 1) = (lastC Q).2.1 ∧ F (40 * p + 8 + 4 * (P.2.1.length - 1) + 2) = (lastC Q).2.2.1 ∧ F (40 * p + 8 + 4 * (P.2.1.length - 1) + 3) = (lastC Q).2.2.2) (hf : ∀ x, 40 * p ≤ x → x < 40 * p + 40 → ¬ (40 * p + 8 + 4 * (P.2.1.length - 1) ≤ x ∧ x < 40 * p + 8 + 4 * (P.2.1.length - 1) + 4) → F x = N x) : RepQ F p (setLast P (lastC Q)) := by
  obtain ⟨h1, h2, h3, h4, h5, h6, h7, h8⟩ := hP
  refine ⟨(hf _ (by omega) (by omega) (by omega)).trans h1, (hf _ (by omega) (by omega) (by omega)).trans h2, (hf _ (by omega) (by omega) (by omega)).trans h3, ?_, by rw [setLast_len]; exact h5, (hf _ (by omega) (by omega) (by omega)).trans h6, (hf _ (by omega) (by omega) (by omega)).trans h7, fun c co hco => ?_⟩
  · rw [setLast_len]
    exact (hf _ (by omega) (by omega) (by omega)).trans h4
  · simp only [setLast] at hco
    rw [List.getElem?_set] at hco
    by_cases hcl : P.2.1.length - 1 = c
    · subst hcl
      rw [if_pos rfl, if_pos (by omega)] at hco
      cases hco
      exact hc
    · rw [if_neg hcl] at hco
      have hlt := (List.getElem?_eq_some_iff.mp hco).1
      obtain ⟨e1, e2, e3, e4⟩ := h8 c co hco
      exact ⟨(hf _ (by omega) (by omega) (by omega)).trans e1, (hf _ (by omega) (by omega) (by omega)).trans e2, (hf _ (by omega) (by omega) (by omega)).trans e3, (hf _ (by omega) (by omega) (by omega)).trans e4⟩
theorem rep_last {N : Nat → Int32} {p : Nat} {P : Prs} (hP : RepQ N p P) (hn : 0 < P.2.1.length) : N (40 * p + 8 + 4 * (P.2.1.length - 1)) = (lastC P).1 ∧ N (40 * p + 8 + 4 * (P.2.1.length - 1) + 1) = (lastC P).2.1 ∧ N (40 * p + 8 + 4 * (P.2.1.length - 1) + 2) = (lastC P).2.2.1 ∧ N (40 * p + 8 + 4 * (P.2.1.length - 1) + 3) = (lastC P).2.2.2 := by
  obtain ⟨co, hco⟩ : ∃ co, P.2.1[P.2.1.length - 1]? = some co := ⟨_, List.getElem?_eq_getElem (by omega)⟩
  have e : lastC P = co := by unfold lastC; rw [hco]; rfl
  rw [e]
  exact hP.2.2.2.2.2.2.2 _ co hco
end M15
