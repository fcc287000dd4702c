theorem outM : ∀ n, n ≤ 8 → ∀ j, j < n → ((wsI n >>> ((nI j + 1) &&& 31) = 0) ↔ j + 1 = n) := by decide +kernel
theorem innM : ∀ n, n ≤ 8 → ∀ j, j < n → ((wsI n &&& ((1 <<< (nI j &&& 31)) - 1) = 0) ↔ j = 0) := by decide +kernel
theorem mayM {off : Int32} {n j : Nat} (hn : n ≤ 8) (hj : j < n) : mayC off (wsI n) (nI j) ↔ (if off = 0 then j + 1 = n else if off = 1 then j = 0 else (¬ j = 0 ∨ j + 1 = n)) := by
  unfold mayC
  have h1 : outerC (wsI n) (nI j) ↔ j + 1 = n := outM n hn j hj
  have h2 : innerC (wsI n) (nI j) ↔ j = 0 := innM n hn j hj
  split
  · exact h1
  · split
    · exact h2
    · rw [h1, h2]
section M3
variable {sh : List Shp} {me : Mem} {d : Nat} {S : St}
set_option maxHeartbeats 4000000 in
set_option maxRecDepth 100000 in
theorem c_M_mayOff {n j : Nat} (z0 : sh[136]? = some (.inl 7)) (g6 : gR me 136 6 = some 141) (x6 : sh[141]? = some (.inr (0, 2))) (hn : n ≤ 8) (hj : j < n) : CI d mX7_mayOff sh [.ref 136, .int (nI j), .int (nI n)] me (fun x m => (x = 1 ∧ mayC (gI me 141 0) (wsI n) (nI j) ∨ x = 0 ∧ ¬ mayC (gI me 141 0) (wsI n) (nI j)) ∧ m = me) := by
  rw [mayM hn hj]
  have e1 : nI n - 1 = nI (n - 1) := by
    obtain ⟨k, rfl⟩ : ∃ k, n = k + 1 := ⟨n - 1, by omega⟩
    exact nI_pred k
  refine CI.mk (L := [.ref 136, .int (nI j), .int (nI n)]) (by decide) (Nat.le_of_ble_eq_true rfl) rfl ?_
  have k60 : ∀ v, (v = 1 ∨ v = 0) → ((v = 1 ∧ (if gI me 141 0 = 0 then j + 1 = n else if gI me 141 0 = 1 then j = 0 else (¬ j = 0 ∨ j + 1 = n)) ∨ v = 0 ∧ ¬ (if gI me 141 0 = 0 then j + 1 = n else if gI me 141 0 = 1 then j = 0 else (¬ j = 0 ∨ j + 1 = n)))) → Wa mX7_mayOff (0, fun _ => 0) d 0 0 sh.length (PI sh (fun x m => (x = 1 ∧ (if gI me 141 0 = 0 then j + 1 = n else if gI me 141 0 = 1 then j = 0 else (¬ j = 0 ∨ j + 1 = n)) ∨ x = 0 ∧ ¬ (if gI me 141 0 = 0 then j + 1 = n else if gI me 141 0 = 1 then j = 0 else (¬ j = 0 ∨ j + 1 = n))) ∧ m = me)) 60 [.ref 136, .int (nI j), .int (nI n)] [.int v] sh me 0 0 := by
    intro v hv h
    refine wi_ret dX7_mayOff_60 rfl (by rcases hv with rfl | rfl <;> decide) (Nat.le_refl _) (Nat.le_refl _) ?_
    exact ⟨h, rfl⟩
  refine ld_a0 (np := 1) dX7_mayOff_0 rfl ?_
  refine wl_getr (np := 4) dX7_mayOff_1 rfl fl_X7_25 rfl (by assumption) (by assumption) ?_
  refine wl_iconst (np := 5) (v := 0) dX7_mayOff_4 rfl (rfl) ?_
  refine wl_ialoadN (np := 6) dX7_mayOff_5 rfl (by first | (simp only [nIm, nIa, ← nI_succ]; exact rfl) | exact nI_z | exact nI_o | exact rfl) (by assumption) (by omega) (by decide) ?_
  refine wl_if_ne (np := 9) (tg := 24) dX7_mayOff_6 rfl rfl (fun c_6 => ?_) (fun c_6 => ?_)
  · refine ld_a0 (np := 25) dX7_mayOff_24 rfl ?_
    refine wl_getr (np := 28) dX7_mayOff_25 rfl fl_X7_25 rfl (by assumption) (by assumption) ?_
    refine wl_iconst (np := 29) (v := 0) dX7_mayOff_28 rfl (rfl) ?_
    refine wl_ialoadN (np := 30) dX7_mayOff_29 rfl (by first | (simp only [nIm, nIa, ← nI_succ]; exact rfl) | exact nI_z | exact nI_o | exact rfl) (by assumption) (by omega) (by decide) ?_
    refine wl_iconst (np := 31) (v := 1) dX7_mayOff_30 rfl (rfl) ?_
    refine wl_icmp_ne (np := 34) (tg := 46) dX7_mayOff_31 rfl rfl (fun c_31 => ?_) (fun c_31 => ?_)
    · refine ld_i1 (np := 47) dX7_mayOff_46 rfl ?_
      refine wl_if_gt (np := 50) (tg := 55) dX7_mayOff_47 rfl rfl (fun c_47 => ?_) (fun c_47 => ?_)
      · have hj0 : ¬ j = 0 := fun q => by rw [q] at c_47; exact absurd c_47 (by decide)
        refine wl_iconst (np := 56) (v := 1) dX7_mayOff_55 rfl (rfl) ?_
        refine wl_goto (tg := 60) dX7_mayOff_56 rfl ?_
        exact k60 1 (Or.inl rfl) (Or.inl ⟨rfl, by rw [if_neg c_6, if_neg c_31]; exact Or.inl hj0⟩)
      · have hj0 : j = 0 := Classical.byContradiction fun q => c_47 (show (0 : Int32) < nI j from (nI_ltI (a := 0) (by omega) (by omega)).mpr (by omega))
        refine ld_i2 (np := 51) dX7_mayOff_50 rfl ?_
        refine wl_iconst (np := 52) (v := 1) dX7_mayOff_51 rfl (rfl) ?_
        refine wl_icmp_ne (np := 55) (tg := 59) dX7_mayOff_52 rfl rfl (fun c_52 => ?_) (fun c_52 => ?_)
        · rw [show (1 : Int32) = nI 1 from rfl, nI_eq (by omega) (by omega)] at c_52
          refine wl_iconst (np := 60) (v := 0) dX7_mayOff_59 rfl (rfl) ?_
          exact k60 0 (Or.inr rfl) (Or.inr ⟨rfl, by rw [if_neg c_6, if_neg c_31]; omega⟩)
        · rw [show (1 : Int32) = nI 1 from rfl, nI_eq (by omega) (by omega)] at c_52
          refine wl_iconst (np := 56) (v := 1) dX7_mayOff_55 rfl (rfl) ?_
          refine wl_goto (tg := 60) dX7_mayOff_56 rfl ?_
          exact k60 1 (Or.inl rfl) (Or.inl ⟨rfl, by rw [if_neg c_6, if_neg c_31]; exact Or.inr (by omega)⟩)
    · refine ld_i1 (np := 35) dX7_mayOff_34 rfl ?_
      refine wl_if_ne (np := 38) (tg := 42) dX7_mayOff_35 rfl rfl (fun c_35 => ?_) (fun c_35 => ?_)
      · rw [show (0 : Int32) = nI 0 from rfl, nI_eq (by omega) (by omega)] at c_35
        refine wl_iconst (np := 43) (v := 0) dX7_mayOff_42 rfl (rfl) ?_
        refine wl_goto (tg := 60) dX7_mayOff_43 rfl ?_
        exact k60 0 (Or.inr rfl) (Or.inr ⟨rfl, by rw [if_neg c_6, if_pos c_31]; exact c_35⟩)
      · rw [show (0 : Int32) = nI 0 from rfl, nI_eq (by omega) (by omega)] at c_35
        refine wl_iconst (np := 39) (v := 1) dX7_mayOff_38 rfl (rfl) ?_
        refine wl_goto (tg := 60) dX7_mayOff_39 rfl ?_
        exact k60 1 (Or.inl rfl) (Or.inl ⟨rfl, by rw [if_neg c_6, if_pos c_31]; exact c_35⟩)
  · refine ld_i1 (np := 10) dX7_mayOff_9 rfl ?_
    refine ld_i2 (np := 11) dX7_mayOff_10 rfl ?_
    refine wl_iconst (np := 12) (v := 1) dX7_mayOff_11 rfl (rfl) ?_
    refine wl_isub (np := 13) dX7_mayOff_12 rfl ?_
    refine wl_icmp_ne (np := 16) (tg := 20) dX7_mayOff_13 rfl rfl (fun c_13 => ?_) (fun c_13 => ?_)
    · rw [e1, nI_eq (by omega) (by omega)] at c_13
      refine wl_iconst (np := 21) (v := 0) dX7_mayOff_20 rfl (rfl) ?_
      refine wl_goto (tg := 60) dX7_mayOff_21 rfl ?_
      exact k60 0 (Or.inr rfl) (Or.inr ⟨rfl, by rw [if_pos c_6]; omega⟩)
    · rw [e1, nI_eq (by omega) (by omega)] at c_13
      refine wl_iconst (np := 17) (v := 1) dX7_mayOff_16 rfl (rfl) ?_
      refine wl_goto (tg := 60) dX7_mayOff_17 rfl ?_
      exact k60 1 (Or.inl rfl) (Or.inl ⟨rfl, by rw [if_pos c_6]; omega⟩)
set_option maxHeartbeats 4000000 in
set_option maxRecDepth 100000 in
theorem c_M_isTooHot {A p dd : Nat} {P : Prs} {H : Nat → Int32} (z0 : sh[136]? = some (.inl 7)) (gs : gR me 136 3 = some A) (xA : sh[A]? = some (.inr (0, 200))) (g5 : gR me 136 5 = some 140) (x5 : sh[140]? = some (.inr (0, 12))) (hq : RepQ (gI me A) p P) (hH : ∀ i, i < 12 → gI me 140 i = H i) (hp : p < 5) (hdd : dd ≤ 359) (hd : 1 ≤ d) : CI d mX7_isTooHot sh [.ref 136, .int (nI p), .int (nI dd)] me (fun x m => (x = 1 ∧ hotS P (H (dd / 30)) ∨ x = 0 ∧ ¬ hotS P (H (dd / 30))) ∧ m = me) := by
  have e : nI dd / nI 30 = nI (dd / 30) := pk_div (d := 30) (by omega) (by decide) (by decide)
  refine CI.mk (L := [.ref 136, .int (nI p), .int (nI dd), .float 0]) (by decide) (Nat.le_of_ble_eq_true rfl) rfl ?_
  unfold hotS
  have k36 : ∀ b, b = maxI (P.1.2.2.1 - H (dd / 30)) 0 → ∀ L4, Wa mX7_isTooHot (0, fun _ => 0) d 0 0 sh.length (PI sh (fun x m => (x = 1 ∧ maxI (P.1.2.2.1 - H (dd / 30)) 0 < thickOf P ∨ x = 0 ∧ ¬ maxI (P.1.2.2.1 - H (dd / 30)) 0 < thickOf P) ∧ m = me)) 36 L4 [.int b, .int (thickOf P)] sh me 0 0 := by
    intro b hb L4
    rw [← hb]
    refine wl_icmp_le (np := 39) (tg := 43) dX7_isTooHot_36 rfl rfl (fun c_36 => ?_) (fun c_36 => ?_)
    · refine wl_iconst (np := 44) (v := 0) dX7_isTooHot_43 rfl (rfl) ?_
      refine wi_ret dX7_isTooHot_44 rfl (by decide) (Nat.le_refl _) (Nat.le_refl _) ?_
      exact ⟨Or.inr ⟨rfl, Int32.not_lt.mpr c_36⟩, rfl⟩
    · refine wl_iconst (np := 40) (v := 1) dX7_isTooHot_39 rfl (rfl) ?_
      refine wl_goto (tg := 44) dX7_isTooHot_40 rfl ?_
      refine wi_ret dX7_isTooHot_44 rfl (by decide) (Nat.le_refl _) (Nat.le_refl _) ?_
      exact ⟨Or.inl ⟨rfl, Int32.not_le.mp c_36⟩, rfl⟩
  refine ld_a0 (np := 1) dX7_isTooHot_0 rfl ?_
  refine wl_getr (np := 4) dX7_isTooHot_1 rfl fl_X7_16 rfl (by assumption) (by assumption) ?_
  refine wl_bipush (np := 6) (v := nI 40) dX7_isTooHot_4 rfl (by decide) ?_
  refine ld_i1 (np := 7) dX7_isTooHot_6 rfl ?_
  refine wl_imul (np := 8) dX7_isTooHot_7 rfl ?_
  refine wl_iconst (np := 9) (v := nI 2) dX7_isTooHot_8 rfl (rfl) ?_
  refine wl_iadd (np := 10) dX7_isTooHot_9 rfl ?_
  refine wl_ialoadN (np := 11) dX7_isTooHot_10 rfl (by first | (simp only [nIm, nIa, ← nI_succ]; exact rfl) | exact e | exact rfl) (by assumption) (by omega) (by decide) ?_
  refine ld_a0 (np := 12) dX7_isTooHot_11 rfl ?_
  refine wl_getr (np := 15) dX7_isTooHot_12 rfl fl_X7_22 rfl (by assumption) (by assumption) ?_
  refine ld_i2 (np := 16) dX7_isTooHot_15 rfl ?_
  refine wl_bipush (np := 18) (v := nI 30) dX7_isTooHot_16 rfl (by decide) ?_
  refine wl_idiv (np := 19) dX7_isTooHot_18 rfl (by decide) ?_
  refine wl_ialoadN (np := 20) dX7_isTooHot_19 rfl (by first | (simp only [nIm, nIa, ← nI_succ]; exact rfl) | exact e | exact rfl) (by assumption) (by omega) (by decide) ?_
  refine wl_isub (np := 21) dX7_isTooHot_20 rfl ?_
  refine st_i3 (np := 22) dX7_isTooHot_21 rfl (by decide) rfl ?_
  refine ld_a0 (np := 23) dX7_isTooHot_22 rfl ?_
  refine ld_i1 (np := 24) dX7_isTooHot_23 rfl ?_
  refine ciV_1 (np := 27) dX7_isTooHot_24 rfl lk_X7_86 (by assumption) (Nat.le_of_ble_eq_true rfl) (by omega) (Nat.le_refl _) (Nat.le_refl _) (c_M_thickOf z0 gs xA hq hp) (fun x_24 m_24 h_24 => ?_)
  obtain ⟨rfl, q_24⟩ := h_24
  have q_24 := q_24.symm
  subst q_24
  refine ld_i3 (np := 28) dX7_isTooHot_27 rfl ?_
  refine wl_if_ge (np := 31) (tg := 35) dX7_isTooHot_28 rfl rfl (fun c_28 => ?_) (fun c_28 => ?_)
  · rw [hq.2.2.1, hH _ (by omega)] at c_28 ⊢
    refine ld_i3 (np := 36) dX7_isTooHot_35 rfl ?_
    exact k36 _ (by unfold maxI; rw [if_neg (Int32.not_lt.mpr c_28)]) _
  · rw [hq.2.2.1, hH _ (by omega)] at c_28 ⊢
    refine wl_iconst (np := 32) (v := 0) dX7_isTooHot_31 rfl (rfl) ?_
    refine wl_goto (tg := 36) dX7_isTooHot_32 rfl ?_
    exact k36 _ (by unfold maxI; rw [if_pos (Int32.not_le.mp c_28)]) _
end M3
