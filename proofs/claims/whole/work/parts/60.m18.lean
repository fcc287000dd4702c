/-! ===== the reference's reading of the tape ===== -/
def nM (me : Mem) (p : Nat) (w : Int32) (r : Nat → Int32) : Mem := uA (uI (uI me 136 14 (nI p)) 136 15 w) 145 r
def hrI (f : Nat → Int32) (n p : Nat) : Int32 := if p < n then f p else 0
section M18
variable {sh : List Shp} {me : Mem} {d n p q : Nat} {S : St} {F r : Nat → Int32} {w : Int32}
theorem nM_at : gI (nM me p w r) 136 14 = nI p := by
  unfold nM
  rw [gI_uAn (by omega), gI_uI_nb (by omega), gI_uI_self]
theorem nM_wr : gI (nM me p w r) 136 15 = w := by
  unfold nM
  rw [gI_uAn (by omega), gI_uI_self]
theorem nM_fl {b : Nat} (h1 : b ≠ 14) (h2 : b ≠ 15) : gI (nM me p w r) 136 b = gI me 136 b := by
  unfold nM
  rw [gI_uAn (by omega), gI_uI_nb h2, gI_uI_nb h1]
theorem nM_o {a : Nat} (h1 : a ≠ 136) (h2 : a ≠ 145) : gI (nM me p w r) a = gI me a := by
  unfold nM
  rw [gI_uAn h2, gI_uI_ne h1, gI_uI_ne h1]
theorem nM_r : gI (nM me p w r) 145 = r := gI_uAs _ _ _
theorem nM_pa {p' : Nat} : uI (nM me p w r) 136 14 (nI p') = nM me p' w r := by
  apply mem_ext
  · intro a b
    simp only [nM, gI_uI, gI_uA]
    grind
  · rfl
theorem nM_pw {w' : Int32} : uI (nM me p w r) 136 15 w' = nM me p w' r := by
  apply mem_ext
  · intro a b
    simp only [nM, gI_uI, gI_uA]
    grind
  · rfl
theorem nM_pr {i : Nat} {x : Int32} : uI (nM me p w r) 145 i x = nM me p w (upd r i x) := by
  apply mem_ext
  · intro a b
    simp only [nM, gI_uI, gI_uA, upd]
    grind
  · rfl
theorem nM_init : uI (uI me 136 14 0) 136 15 0 = nM me 0 0 (gI me 145) := by
  apply mem_ext
  · intro a b
    simp only [nM, gI_uI, gI_uA]
    have e : nI 0 = 0 := rfl
    grind
  · rfl
theorem hr_nb {c : Int32} (h0 : ¬ c = 0) (h1 : ¬ c = -1) : hrI F n q = c ↔ nbI F n q = c := by
  unfold hrI nbI
  split
  · exact Iff.rfl
  · exact ⟨fun e => absurd e.symm h0, fun e => absurd e.symm h1⟩
set_option maxHeartbeats 4000000 in
set_option maxRecDepth 100000 in
theorem c_M_here (z0 : sh[136]? = some (.inl 7)) (g12 : gR me 136 12 = some 144) (x12 : sh[144]? = some (.inr (0, 80))) (hl : gI me 136 13 = nI n) (hn : n ≤ 80) (hF : gI me 144 = F) (hpn : p ≤ n) : CI d mX7_here sh [.ref 136] (nM me p w r) (fun x m => x = hrI F n (skB F n p) ∧ m = nM me (skB F n p) w r) := by
  have key : ∀ fuel i, n - i < fuel → i ≤ n → skB F n i = skB F n p → Wa mX7_here (0, fun _ => 0) d 0 0 sh.length (PI sh (fun x m => x = hrI F n (skB F n p) ∧ m = nM me (skB F n p) w r)) 0 [.ref 136] [] sh (nM me i w r) 0 0 := by
    intro fuel
    induction fuel with
    | zero => intro i h; omega
    | succ fuel ih =>
      intro i hi hin hs
      have f1 : gI (nM me i w r) 136 13 = nI n := (nM_fl (by omega) (by omega)).trans hl
      have f2 : gI (nM me i w r) 136 14 = nI i := nM_at
      have f3 : gI (nM me i w r) 144 = F := (nM_o (by omega) (by omega)).trans hF
      refine ld_a0 (np := 1) dX7_here_0 rfl ?_
      refine wl_geti (np := 4) dX7_here_1 rfl fl_X7_119 (by decide) (by assumption) ?_
      refine ld_a0 (np := 5) dX7_here_4 rfl ?_
      refine wl_geti (np := 8) dX7_here_5 rfl fl_X7_116 (by decide) (by assumption) ?_
      refine wl_icmp_ge (np := 11) (tg := 38) dX7_here_8 rfl rfl (fun c_8 => ?_) (fun c_8 => ?_)
      · rw [f1, f2, nI_le_iff (by omega) (by omega)] at c_8
        have hst : skB F n i = i := skB_stop (Or.inl c_8)
        refine ld_a0 (np := 39) dX7_here_38 rfl ?_
        refine wl_geti (np := 42) dX7_here_39 rfl fl_X7_119 (by decide) (by assumption) ?_
        refine ld_a0 (np := 43) dX7_here_42 rfl ?_
        refine wl_geti (np := 46) dX7_here_43 rfl fl_X7_116 (by decide) (by assumption) ?_
        refine wl_icmp_ge (np := 49) (tg := 61) dX7_here_46 rfl rfl (fun c_46 => ?_) (fun c_46 => ?_)
        · refine wl_iconst (np := 62) (v := 0) dX7_here_61 rfl (rfl) ?_
          refine wi_ret dX7_here_62 rfl (rfl) (Nat.le_refl _) (Nat.le_refl _) ?_
          rw [← hs, hst]
          exact ⟨by unfold hrI; rw [if_neg (by omega)], rfl⟩
        · rw [f1, f2, nI_le_iff (by omega) (by omega)] at c_46
          omega
      · rw [f1, f2, nI_le_iff (by omega) (by omega)] at c_8
        refine ld_a0 (np := 12) dX7_here_11 rfl ?_
        refine wl_getr (np := 15) dX7_here_12 rfl fl_X7_34 rfl (by assumption) (by assumption) ?_
        refine ld_a0 (np := 16) dX7_here_15 rfl ?_
        refine wl_geti (np := 19) dX7_here_16 rfl fl_X7_119 (by decide) (by assumption) ?_
        refine wl_ialoadN (np := 20) dX7_here_19 rfl (by first | (simp only [nM_at,nIm, nIa, ← nI_succ]; exact rfl) | exact nI_z | exact nI_o | exact rfl) (by assumption) (by omega) (by first | decide | omega) ?_
        refine wl_bipush (np := 22) (v := nI 32) dX7_here_20 rfl (by decide) ?_
        refine wl_icmp_ne (np := 25) (tg := 38) dX7_here_22 rfl rfl (fun c_22 => ?_) (fun c_22 => ?_)
        · rw [f3] at c_22
          have hst : skB F n i = i := skB_stop (Or.inr c_22)
          refine ld_a0 (np := 39) dX7_here_38 rfl ?_
          refine wl_geti (np := 42) dX7_here_39 rfl fl_X7_119 (by decide) (by assumption) ?_
          refine ld_a0 (np := 43) dX7_here_42 rfl ?_
          refine wl_geti (np := 46) dX7_here_43 rfl fl_X7_116 (by decide) (by assumption) ?_
          refine wl_icmp_ge (np := 49) (tg := 61) dX7_here_46 rfl rfl (fun c_46 => ?_) (fun c_46 => ?_)
          · rw [f1, f2, nI_le_iff (by omega) (by omega)] at c_46
            omega
          · refine ld_a0 (np := 50) dX7_here_49 rfl ?_
            refine wl_getr (np := 53) dX7_here_50 rfl fl_X7_34 rfl (by assumption) (by assumption) ?_
            refine ld_a0 (np := 54) dX7_here_53 rfl ?_
            refine wl_geti (np := 57) dX7_here_54 rfl fl_X7_119 (by decide) (by assumption) ?_
            refine wl_ialoadN (np := 58) dX7_here_57 rfl (by first | (simp only [nM_at,nIm, nIa, ← nI_succ]; exact rfl) | exact nI_z | exact nI_o | exact rfl) (by assumption) (by omega) (by first | decide | omega) ?_
            refine wl_goto (tg := 62) dX7_here_58 rfl ?_
            refine wi_ret dX7_here_62 rfl (rfl) (Nat.le_refl _) (Nat.le_refl _) ?_
            rw [f3, ← hs, hst]
            exact ⟨by unfold hrI; rw [if_pos (by omega)], rfl⟩
        · rw [f3] at c_22
          refine ld_a0 (np := 26) dX7_here_25 rfl ?_
          refine wl_dup (np := 27) dX7_here_26 rfl rfl ?_
          refine wl_geti (np := 30) dX7_here_27 rfl fl_X7_119 (by decide) (by assumption) ?_
          refine wl_iconst (np := 31) (v := 1) dX7_here_30 rfl (rfl) ?_
          refine wl_iadd (np := 32) dX7_here_31 rfl ?_
          refine wl_puti (np := 35) dX7_here_32 rfl fl_X7_119 nf_7_14 rfl (by assumption) ?_
          refine wl_goto (tg := 0) dX7_here_35 rfl ?_
          rw [f2, ← nI_succ, nM_pa]
          exact ih (i + 1) (by omega) (by omega) ((skB_step (by omega) c_22).symm.trans hs)
  refine CI.mk (L := [.ref 136]) (by decide) (Nat.le_of_ble_eq_true rfl) rfl ?_
  exact key (n + 1) p (by omega) hpn rfl
set_option maxHeartbeats 4000000 in
set_option maxRecDepth 100000 in
theorem c_M_has1 (c : Int32) (z0 : sh[136]? = some (.inl 7)) : CI d mX7_has sh [.ref 136, .int c] (nM me p 1 r) (fun x m => x = 0 ∧ m = nM me p 1 r) := by
  refine CI.mk (L := [.ref 136, .int c, .float 0]) (by decide) (Nat.le_of_ble_eq_true rfl) rfl ?_
  refine ld_a0 (np := 1) dX7_has_0 rfl ?_
  refine wl_geti (np := 4) dX7_has_1 rfl fl_X7_122 (by decide) (by assumption) ?_
  refine wl_if_ne (np := 7) (tg := 19) dX7_has_4 rfl rfl (fun c_4 => ?_) (fun c_4 => ?_)
  · refine wl_iconst (np := 20) (v := 0) dX7_has_19 rfl (rfl) ?_
    refine st_i2 (np := 21) dX7_has_20 rfl (by decide) rfl ?_
    refine ld_a0 (np := 22) dX7_has_21 rfl ?_
    refine wl_dup (np := 23) dX7_has_22 rfl rfl ?_
    refine wl_geti (np := 26) dX7_has_23 rfl fl_X7_119 (by decide) (by assumption) ?_
    refine ld_i2 (np := 27) dX7_has_26 rfl ?_
    refine wl_if_eq (np := 30) (tg := 34) dX7_has_27 rfl rfl (fun c_27 => ?_) (fun c_27 => ?_)
    · refine wl_iconst (np := 35) (v := 0) dX7_has_34 rfl (rfl) ?_
      refine wl_iadd (np := 36) dX7_has_35 rfl ?_
      refine wl_puti (np := 39) dX7_has_36 rfl fl_X7_119 nf_7_14 rfl (by assumption) ?_
      refine ld_i2 (np := 40) dX7_has_39 rfl ?_
      refine wi_ret dX7_has_40 rfl (by decide) (Nat.le_refl _) (Nat.le_refl _) ?_
      rw [nM_at, Int32.add_zero, nM_pa]
      exact ⟨rfl, rfl⟩
    · exact absurd rfl c_27
  · exact absurd (nM_wr.symm.trans c_4) (by decide)
set_option maxHeartbeats 4000000 in
set_option maxRecDepth 100000 in
theorem c_M_has0 (c : Int32) (hc0 : ¬ c = 0) (hc1 : ¬ c = -1) (z0 : sh[136]? = some (.inl 7)) (g12 : gR me 136 12 = some 144) (x12 : sh[144]? = some (.inr (0, 80))) (hl : gI me 136 13 = nI n) (hn : n ≤ 80) (hF : gI me 144 = F) (hpn : p ≤ n) (hd : 1 ≤ d) : CI d mX7_has sh [.ref 136, .int c] (nM me p 0 r) (fun x m => x = (if (skS F n p c).2 = true then 1 else 0) ∧ m = nM me (skS F n p c).1 0 r) := by
  refine CI.mk (L := [.ref 136, .int c, .float 0]) (by decide) (Nat.le_of_ble_eq_true rfl) rfl ?_
  unfold skS
  dsimp only
  refine ld_a0 (np := 1) dX7_has_0 rfl ?_
  refine wl_geti (np := 4) dX7_has_1 rfl fl_X7_122 (by decide) (by assumption) ?_
  refine wl_if_ne (np := 7) (tg := 19) dX7_has_4 rfl rfl (fun c_4 => ?_) (fun c_4 => ?_)
  · exact absurd nM_wr c_4
  · refine ld_a0 (np := 8) dX7_has_7 rfl ?_
    refine ciV_0 (np := 11) dX7_has_8 rfl lk_X7_126 (by assumption) (Nat.le_of_ble_eq_true rfl) (by omega) (Nat.le_refl _) (Nat.le_refl _) (c_M_here z0 g12 x12 hl hn hF hpn) (fun x_8 m_8 h_8 => ?_)
    obtain ⟨rfl, q_8⟩ := h_8
    have q_8 := q_8.symm
    subst q_8
    refine ld_i1 (np := 12) dX7_has_11 rfl ?_
    refine wl_icmp_ne (np := 15) (tg := 19) dX7_has_12 rfl rfl (fun c_12 => ?_) (fun c_12 => ?_)
    · rw [if_neg (fun e => c_12 ((hr_nb hc0 hc1).mpr e))]
      refine wl_iconst (np := 20) (v := 0) dX7_has_19 rfl (rfl) ?_
      refine st_i2 (np := 21) dX7_has_20 rfl (by decide) rfl ?_
      refine ld_a0 (np := 22) dX7_has_21 rfl ?_
      refine wl_dup (np := 23) dX7_has_22 rfl rfl ?_
      refine wl_geti (np := 26) dX7_has_23 rfl fl_X7_119 (by decide) (by assumption) ?_
      refine ld_i2 (np := 27) dX7_has_26 rfl ?_
      refine wl_if_eq (np := 30) (tg := 34) dX7_has_27 rfl rfl (fun c_27 => ?_) (fun c_27 => ?_)
      · refine wl_iconst (np := 35) (v := 0) dX7_has_34 rfl (rfl) ?_
        refine wl_iadd (np := 36) dX7_has_35 rfl ?_
        refine wl_puti (np := 39) dX7_has_36 rfl fl_X7_119 nf_7_14 rfl (by assumption) ?_
        refine ld_i2 (np := 40) dX7_has_39 rfl ?_
        refine wi_ret dX7_has_40 rfl (by decide) (Nat.le_refl _) (Nat.le_refl _) ?_
        rw [nM_at, Int32.add_zero, nM_pa]
        exact ⟨rfl, rfl⟩
      · exact absurd rfl c_27
    · rw [if_pos ((hr_nb hc0 hc1).mp c_12)]
      refine wl_iconst (np := 16) (v := 1) dX7_has_15 rfl (rfl) ?_
      refine wl_goto (tg := 20) dX7_has_16 rfl ?_
      refine st_i2 (np := 21) dX7_has_20 rfl (by decide) rfl ?_
      refine ld_a0 (np := 22) dX7_has_21 rfl ?_
      refine wl_dup (np := 23) dX7_has_22 rfl rfl ?_
      refine wl_geti (np := 26) dX7_has_23 rfl fl_X7_119 (by decide) (by assumption) ?_
      refine ld_i2 (np := 27) dX7_has_26 rfl ?_
      refine wl_if_eq (np := 30) (tg := 34) dX7_has_27 rfl rfl (fun c_27 => ?_) (fun c_27 => ?_)
      · exact absurd c_27 (by decide)
      · refine wl_iconst (np := 31) (v := 1) dX7_has_30 rfl (rfl) ?_
        refine wl_goto (tg := 35) dX7_has_31 rfl ?_
        refine wl_iadd (np := 36) dX7_has_35 rfl ?_
        refine wl_puti (np := 39) dX7_has_36 rfl fl_X7_119 nf_7_14 rfl (by assumption) ?_
        refine ld_i2 (np := 40) dX7_has_39 rfl ?_
        refine wi_ret dX7_has_40 rfl (by decide) (Nat.le_refl _) (Nat.le_refl _) ?_
        rw [nM_at, ← nI_succ, nM_pa]
        exact ⟨rfl, rfl⟩
set_option maxHeartbeats 4000000 in
set_option maxRecDepth 100000 in
theorem c_M_byteOf1 (lo hi : Int32) (z0 : sh[136]? = some (.inl 7)) : CI d mX7_byteOf sh [.ref 136, .int lo, .int hi] (nM me p 1 r) (fun x m => x = 0 - lo ∧ m = nM me p 1 r) := by
  refine CI.mk (L := [.ref 136, .int lo, .int hi, .float 0]) (by decide) (Nat.le_of_ble_eq_true rfl) rfl ?_
  refine ld_a0 (np := 1) dX7_byteOf_0 rfl ?_
  refine wl_geti (np := 4) dX7_byteOf_1 rfl fl_X7_122 (by decide) (by assumption) ?_
  refine wl_if_eq (np := 7) (tg := 11) dX7_byteOf_4 rfl rfl (fun c_4 => ?_) (fun c_4 => ?_)
  · exact absurd (nM_wr.symm.trans c_4) (by decide)
  · refine wl_iconst (np := 8) (v := 0) dX7_byteOf_7 rfl (rfl) ?_
    refine wl_goto (tg := 15) dX7_byteOf_8 rfl ?_
    refine st_i3 (np := 16) dX7_byteOf_15 rfl (by decide) rfl ?_
    refine ld_a0 (np := 17) dX7_byteOf_16 rfl ?_
    refine ld_a0 (np := 18) dX7_byteOf_17 rfl ?_
    refine wl_geti (np := 21) dX7_byteOf_18 rfl fl_X7_122 (by decide) (by assumption) ?_
    refine wl_if_ne (np := 24) (tg := 36) dX7_byteOf_21 rfl rfl (fun c_21 => ?_) (fun c_21 => ?_)
    · skip
      refine wl_iconst (np := 37) (v := 1) dX7_byteOf_36 rfl (rfl) ?_
      refine wl_goto (tg := 41) dX7_byteOf_37 rfl ?_
      refine wl_putz (np := 44) dX7_byteOf_41 rfl fl_X7_122 nf_7_15 rfl (by decide) (by assumption) ?_
      rw [nM_pw]
      refine ld_a0 (np := 45) dX7_byteOf_44 rfl ?_
      refine wl_dup (np := 46) dX7_byteOf_45 rfl rfl ?_
      refine wl_geti (np := 49) dX7_byteOf_46 rfl fl_X7_119 (by decide) (by assumption) ?_
      refine ld_a0 (np := 50) dX7_byteOf_49 rfl ?_
      refine wl_geti (np := 53) dX7_byteOf_50 rfl fl_X7_122 (by decide) (by assumption) ?_
      refine wl_if_eq (np := 56) (tg := 60) dX7_byteOf_53 rfl rfl (fun c_53 => ?_) (fun c_53 => ?_)
      · exact absurd (nM_wr.symm.trans c_53) (by decide)
      · refine wl_iconst (np := 57) (v := 0) dX7_byteOf_56 rfl (rfl) ?_
        refine wl_goto (tg := 61) dX7_byteOf_57 rfl ?_
        refine wl_iadd (np := 62) dX7_byteOf_61 rfl ?_
        refine wl_puti (np := 65) dX7_byteOf_62 rfl fl_X7_119 nf_7_14 rfl (by assumption) ?_
        refine ld_i3 (np := 66) dX7_byteOf_65 rfl ?_
        refine ld_i1 (np := 67) dX7_byteOf_66 rfl ?_
        refine wl_isub (np := 68) dX7_byteOf_67 rfl ?_
        refine wi_ret dX7_byteOf_68 rfl (rfl) (Nat.le_refl _) (Nat.le_refl _) ?_
        rw [nM_at, Int32.add_zero, nM_pa]
        exact ⟨rfl, rfl⟩
    · exact absurd (nM_wr.symm.trans c_21) (by decide)
set_option maxHeartbeats 4000000 in
set_option maxRecDepth 100000 in
theorem c_M_byteOf0 (lo hi : Int32) (z0 : sh[136]? = some (.inl 7)) (g12 : gR me 136 12 = some 144) (x12 : sh[144]? = some (.inr (0, 80))) (hl : gI me 136 13 = nI n) (hn : n ≤ 80) (hF : gI me 144 = F) (hpn : p ≤ n) (hd : 1 ≤ d) : CI d mX7_byteOf sh [.ref 136, .int lo, .int hi] (nM me p 0 r) (fun x m => (inR (hrI F n (skB F n p)) lo hi ∧ x = hrI F n (skB F n p) - lo ∧ m = nM me (skB F n p + 1) 0 r) ∨ (¬ inR (hrI F n (skB F n p)) lo hi ∧ m = nM me (skB F n p) 1 r)) := by
  refine CI.mk (L := [.ref 136, .int lo, .int hi, .float 0]) (by decide) (Nat.le_of_ble_eq_true rfl) rfl ?_
  refine ld_a0 (np := 1) dX7_byteOf_0 rfl ?_
  refine wl_geti (np := 4) dX7_byteOf_1 rfl fl_X7_122 (by decide) (by assumption) ?_
  refine wl_if_eq (np := 7) (tg := 11) dX7_byteOf_4 rfl rfl (fun c_4 => ?_) (fun c_4 => ?_)
  · refine ld_a0 (np := 12) dX7_byteOf_11 rfl ?_
    refine ciV_0 (np := 15) dX7_byteOf_12 rfl lk_X7_126 (by assumption) (Nat.le_of_ble_eq_true rfl) (by omega) (Nat.le_refl _) (Nat.le_refl _) (c_M_here z0 g12 x12 hl hn hF hpn) (fun x_12 m_12 h_12 => ?_)
    obtain ⟨rfl, q_12⟩ := h_12
    have q_12 := q_12.symm
    subst q_12
    refine st_i3 (np := 16) dX7_byteOf_15 rfl (by decide) rfl ?_
    refine ld_a0 (np := 17) dX7_byteOf_16 rfl ?_
    refine ld_a0 (np := 18) dX7_byteOf_17 rfl ?_
    refine wl_geti (np := 21) dX7_byteOf_18 rfl fl_X7_122 (by decide) (by assumption) ?_
    refine wl_if_ne (np := 24) (tg := 36) dX7_byteOf_21 rfl rfl (fun c_21 => ?_) (fun c_21 => ?_)
    · exact absurd nM_wr c_21
    · refine ld_i3 (np := 25) dX7_byteOf_24 rfl ?_
      refine wl_i2l (np := 26) dX7_byteOf_25 rfl ?_
      refine ld_i1 (np := 27) dX7_byteOf_26 rfl ?_
      refine wl_i2l (np := 28) dX7_byteOf_27 rfl ?_
      refine ld_i2 (np := 29) dX7_byteOf_28 rfl ?_
      refine wl_i2l (np := 30) dX7_byteOf_29 rfl ?_
      refine ciS_3 (np := 33) dX7_byteOf_30 rfl lk_X7_68 (Nat.le_of_ble_eq_true rfl) (by omega) (Nat.le_refl _) (Nat.le_refl _) (c_in32 _ _ _ rfl rfl) (fun x_30 m_30 h_30 => ?_)
      obtain ⟨rfl, q_30⟩ := h_30
      have q_30 := q_30.symm
      subst q_30
      refine wl_if_ne (np := 36) (tg := 40) dX7_byteOf_33 rfl rfl (fun c_33 => ?_) (fun c_33 => ?_)
      · have hin := if1 c_33
        refine wl_iconst (np := 41) (v := 0) dX7_byteOf_40 rfl (rfl) ?_
        refine wl_putz (np := 44) dX7_byteOf_41 rfl fl_X7_122 nf_7_15 rfl (by decide) (by assumption) ?_
        rw [nM_pw]
        refine ld_a0 (np := 45) dX7_byteOf_44 rfl ?_
        refine wl_dup (np := 46) dX7_byteOf_45 rfl rfl ?_
        refine wl_geti (np := 49) dX7_byteOf_46 rfl fl_X7_119 (by decide) (by assumption) ?_
        refine ld_a0 (np := 50) dX7_byteOf_49 rfl ?_
        refine wl_geti (np := 53) dX7_byteOf_50 rfl fl_X7_122 (by decide) (by assumption) ?_
        refine wl_if_eq (np := 56) (tg := 60) dX7_byteOf_53 rfl rfl (fun c_53 => ?_) (fun c_53 => ?_)
        · refine wl_iconst (np := 61) (v := 1) dX7_byteOf_60 rfl (rfl) ?_
          refine wl_iadd (np := 62) dX7_byteOf_61 rfl ?_
          refine wl_puti (np := 65) dX7_byteOf_62 rfl fl_X7_119 nf_7_14 rfl (by assumption) ?_
          refine ld_i3 (np := 66) dX7_byteOf_65 rfl ?_
          refine ld_i1 (np := 67) dX7_byteOf_66 rfl ?_
          refine wl_isub (np := 68) dX7_byteOf_67 rfl ?_
          refine wi_ret dX7_byteOf_68 rfl (rfl) (Nat.le_refl _) (Nat.le_refl _) ?_
          rw [nM_at, ← nI_succ, nM_pa]
          exact Or.inl ⟨hin, rfl, rfl⟩
        · exact absurd nM_wr c_53
      · have hin := if0 c_33
        refine wl_iconst (np := 37) (v := 1) dX7_byteOf_36 rfl (rfl) ?_
        refine wl_goto (tg := 41) dX7_byteOf_37 rfl ?_
        refine wl_putz (np := 44) dX7_byteOf_41 rfl fl_X7_122 nf_7_15 rfl (by decide) (by assumption) ?_
        rw [nM_pw]
        refine ld_a0 (np := 45) dX7_byteOf_44 rfl ?_
        refine wl_dup (np := 46) dX7_byteOf_45 rfl rfl ?_
        refine wl_geti (np := 49) dX7_byteOf_46 rfl fl_X7_119 (by decide) (by assumption) ?_
        refine ld_a0 (np := 50) dX7_byteOf_49 rfl ?_
        refine wl_geti (np := 53) dX7_byteOf_50 rfl fl_X7_122 (by decide) (by assumption) ?_
        refine wl_if_eq (np := 56) (tg := 60) dX7_byteOf_53 rfl rfl (fun c_53 => ?_) (fun c_53 => ?_)
        · exact absurd (nM_wr.symm.trans c_53) (by decide)
        · refine wl_iconst (np := 57) (v := 0) dX7_byteOf_56 rfl (rfl) ?_
          refine wl_goto (tg := 61) dX7_byteOf_57 rfl ?_
          refine wl_iadd (np := 62) dX7_byteOf_61 rfl ?_
          refine wl_puti (np := 65) dX7_byteOf_62 rfl fl_X7_119 nf_7_14 rfl (by assumption) ?_
          refine ld_i3 (np := 66) dX7_byteOf_65 rfl ?_
          refine ld_i1 (np := 67) dX7_byteOf_66 rfl ?_
          refine wl_isub (np := 68) dX7_byteOf_67 rfl ?_
          refine wi_ret dX7_byteOf_68 rfl (rfl) (Nat.le_refl _) (Nat.le_refl _) ?_
          rw [nM_at, Int32.add_zero, nM_pa]
          exact Or.inr ⟨hin, rfl⟩
  · exact absurd nM_wr c_4
set_option maxHeartbeats 4000000 in
set_option maxRecDepth 100000 in
theorem c_M_number1 (lo hi : Int32) (z0 : sh[136]? = some (.inl 7)) : CI d mX7_number sh [.ref 136, .int lo, .int hi] (nM me p 1 r) (fun x m => x = 0 ∧ m = nM me p 1 r) := by
  refine CI.mk (L := [.ref 136, .int lo, .int hi, .float 0, .float 0]) (by decide) (Nat.le_of_ble_eq_true rfl) rfl ?_
  refine ld_a0 (np := 1) dX7_number_0 rfl ?_
  refine wl_geti (np := 4) dX7_number_1 rfl fl_X7_122 (by decide) (by assumption) ?_
  refine wl_if_ne (np := 7) (tg := 24) dX7_number_4 rfl rfl (fun c_4 => ?_) (fun c_4 => ?_)
  · refine ld_a0 (np := 25) dX7_number_24 rfl ?_
    refine wl_iconst (np := 26) (v := 1) dX7_number_25 rfl (rfl) ?_
    refine wl_putz (np := 29) dX7_number_26 rfl fl_X7_122 nf_7_15 rfl (by decide) (by assumption) ?_
    refine wl_iconst (np := 30) (v := 0) dX7_number_29 rfl (rfl) ?_
    refine wi_ret dX7_number_30 rfl (rfl) (Nat.le_refl _) (Nat.le_refl _) ?_
    rw [nM_pw]
    exact ⟨rfl, rfl⟩
  · exact absurd (nM_wr.symm.trans c_4) (by decide)
/-- a number as the class holds it, and as the reference does -/
def rlV (v v' : Int32) : Prop := ∃ a b, v = nI a ∧ v' = nI b ∧ a ≤ 999999 ∧ b ≤ 999999 ∧ (a = b ∧ a ≤ 99999 ∨ 99999 < a ∧ 99999 < b)
theorem dig_nI {y : Int32} (h : 48 ≤ y ∧ y ≤ 57) : ∃ c, y = nI c ∧ 48 ≤ c ∧ c ≤ 57 := by
  obtain ⟨j, hj, rfl⟩ := nI_of2 (x := y) (M := 57) (n := 57) rfl (Int32.not_lt.mpr (Int32.le_trans (by decide) h.1)) h.2
  exact ⟨j, rfl, (nI_leI (by decide) (by omega)).mp (show nI 48 ≤ nI j from h.1), hj⟩
theorem rlV_step1 {v v' y : Int32} (h : rlV v v') (hy : 48 ≤ y ∧ y ≤ 57) (hv : v' ≤ 99999) : rlV (minI (v * 10 + y - 48) 999999) (nI 10 * v' + y - nI 48) := by
  obtain ⟨a, b, rfl, rfl, ha, hb, hab⟩ := h
  obtain ⟨c, rfl, c1, c2⟩ := dig_nI hy
  have hv : nI b ≤ nI 99999 := hv
  rw [nI_leI (by omega) (by decide)] at hv
  have hab : a = b := by omega
  subst hab
  have e1 : nI a * 10 + nI c - 48 = nI (a * 10 + c - 48) := by
    show nI a * nI 10 + nI c - nI 48 = _
    rw [nIm, nIa, nI_subI (by omega)]
  have e2 : nI 10 * nI a + nI c - nI 48 = nI (a * 10 + c - 48) := by
    rw [nIm, nIa, nI_subI (by omega), Nat.mul_comm]
  have e3 : minI (nI (a * 10 + c - 48)) 999999 = nI (a * 10 + c - 48) := by
    unfold minI
    rw [if_neg (fun h => by
      have h : nI 999999 < nI (a * 10 + c - 48) := h
      rw [nI_ltI (by decide) (by omega)] at h
      omega)]
  rw [e1, e2, e3]
  refine ⟨_, _, rfl, rfl, by omega, by omega, ?_⟩
  by_cases hh : a * 10 + c - 48 ≤ 99999
  · exact Or.inl ⟨rfl, hh⟩
  · exact Or.inr ⟨by omega, by omega⟩
theorem rlV_step2 {v v' y : Int32} (h : rlV v v') (hy : 48 ≤ y ∧ y ≤ 57) (hv : ¬ v' ≤ 99999) : rlV (minI (v * 10 + y - 48) 999999) v' := by
  obtain ⟨a, b, rfl, rfl, ha, hb, hab⟩ := h
  obtain ⟨c, rfl, c1, c2⟩ := dig_nI hy
  have hv : ¬ nI b ≤ nI 99999 := hv
  rw [nI_leI (by omega) (by decide)] at hv
  have e1 : nI a * 10 + nI c - 48 = nI (a * 10 + c - 48) := by
    show nI a * nI 10 + nI c - nI 48 = _
    rw [nIm, nIa, nI_subI (by omega)]
  have e3 : minI (nI (a * 10 + c - 48)) 999999 = nI 999999 := by
    unfold minI
    exact if_pos (show nI 999999 < nI (a * 10 + c - 48) from nI_lt (by omega) (by omega))
  rw [e1, e3]
  exact ⟨_, _, rfl, rfl, by omega, by omega, Or.inr ⟨by omega, by omega⟩⟩
theorem rlV_in {v v' lo hi : Int32} {H : Nat} (h : rlV v v') (hh : hi = nI H) (hH : H ≤ 9999) : (lo ≤ v' ∧ v' ≤ hi → lo ≤ v ∧ v ≤ hi ∧ v = v') ∧ (lo ≤ v ∧ v ≤ hi → lo ≤ v' ∧ v' ≤ hi) := by
  obtain ⟨a, b, rfl, rfl, ha, hb, hab⟩ := h
  subst hh
  rcases hab with ⟨rfl, -⟩ | ⟨h1, h2⟩
  · exact ⟨fun h => ⟨h.1, h.2, rfl⟩, id⟩
  · refine ⟨fun h => ?_, fun h => ?_⟩
    · have := (nI_leI (by omega) (by omega)).mp h.2
      omega
    · have := (nI_leI (by omega) (by omega)).mp h.2
      omega
def NumM (me : Mem) (r : Nat → Int32) (res : Nat × Option Int32) (x : Int32) (m : Mem) : Prop := match res with
  | (p', some v) => x = v ∧ m = nM me p' 0 r
  | (p', none) => m = nM me p' 1 r
set_option maxHeartbeats 4000000 in
set_option maxRecDepth 100000 in
theorem c_M_number0 (lo hi : Int32) {H : Nat} (hh : hi = nI H) (hH : H ≤ 9999) (z0 : sh[136]? = some (.inl 7)) (g12 : gR me 136 12 = some 144) (x12 : sh[144]? = some (.inr (0, 80))) (hl : gI me 136 13 = nI n) (hn : n ≤ 80) (hF : gI me 144 = F) (hpn : p ≤ n) (hd : 1 ≤ d) : CI d mX7_number sh [.ref 136, .int lo, .int hi] (nM me p 0 r) (fun x m => NumM me r (numS F n p lo hi) x m) := by
  have hsk := skB_le (f := F) hpn
  generalize hp1 : skB F n p = p1 at hsk
  have key : ∀ fuel i v v', n - i < fuel → p1 ≤ i → i ≤ n → (p1 < i ∨ (i < n ∧ 48 ≤ F i ∧ F i ≤ 57)) → rlV v v' → dgF F (n - i) i v = dgF F (n - p1) p1 0 → Wa mX7_number (0, fun _ => 0) d 0 0 sh.length (PI sh (fun x m => NumM me r (numS F n p lo hi) x m)) 39 [.ref 136, .int lo, .int hi, .int (nI p1), .int v'] [] sh (nM me i 0 r) 0 0 := by
    intro fuel
    induction fuel with
    | zero => intro i v v' h; omega
    | succ fuel ih =>
      intro i v v' hi1 hpi hin hne hrl hdg
      have f1 : gI (nM me i 0 r) 136 13 = nI n := (nM_fl (by omega) (by omega)).trans hl
      have f2 : gI (nM me i 0 r) 136 14 = nI i := nM_at
      have f3 : gI (nM me i 0 r) 144 = F := (nM_o (by omega) (by omega)).trans hF
      have fin : dgF F (n - i) i v = (i, v) → p1 < i → Wa mX7_number (0, fun _ => 0) d 0 0 sh.length (PI sh (fun x m => NumM me r (numS F n p lo hi) x m)) 117 [.ref 136, .int lo, .int hi, .int (nI p1), .int v'] [] sh (nM me i 0 r) 0 0 := by
        intro hend hlt
        rw [hend] at hdg
        have en : numS F n p lo hi = if p1 < i ∧ lo ≤ v ∧ v ≤ hi then (i, some v) else (p1, none) := by
          unfold numS
          dsimp only
          rw [hp1, ← hdg]
        rw [en]
        refine ld_a0 (np := 118) dX7_number_117 rfl ?_
        refine ld_i4 (np := 120) dX7_number_118 rfl ?_
        refine wl_i2l (np := 121) dX7_number_120 rfl ?_
        refine ld_i1 (np := 122) dX7_number_121 rfl ?_
        refine wl_i2l (np := 123) dX7_number_122 rfl ?_
        refine ld_i2 (np := 124) dX7_number_123 rfl ?_
        refine wl_i2l (np := 125) dX7_number_124 rfl ?_
        refine ciS_3 (np := 128) dX7_number_125 rfl lk_X7_68 (Nat.le_of_ble_eq_true rfl) (by omega) (Nat.le_refl _) (Nat.le_refl _) (c_in32 _ _ _ rfl rfl) (fun x_125 m_125 h_125 => ?_)
        obtain ⟨rfl, q_125⟩ := h_125
        have q_125 := q_125.symm
        subst q_125
        refine wl_if_ne (np := 131) (tg := 135) dX7_number_128 rfl rfl (fun c_128 => ?_) (fun c_128 => ?_)
        · have h1 := (rlV_in hrl hh hH).1 (if1 c_128)
          rw [if_pos ⟨hlt, h1.1, h1.2.1⟩]
          refine wl_iconst (np := 136) (v := 0) dX7_number_135 rfl (rfl) ?_
          refine wl_putz (np := 139) dX7_number_136 rfl fl_X7_122 nf_7_15 rfl (by decide) (by assumption) ?_
          rw [nM_pw]
          refine ld_a0 (np := 140) dX7_number_139 rfl ?_
          refine ld_a0 (np := 141) dX7_number_140 rfl ?_
          refine wl_geti (np := 144) dX7_number_141 rfl fl_X7_122 (by decide) (by assumption) ?_
          refine wl_if_eq (np := 147) (tg := 151) dX7_number_144 rfl rfl (fun c_144 => ?_) (fun c_144 => ?_)
          · refine ld_a0 (np := 152) dX7_number_151 rfl ?_
            refine wl_geti (np := 155) dX7_number_152 rfl fl_X7_119 (by decide) (by assumption) ?_
            refine wl_puti (np := 158) dX7_number_155 rfl fl_X7_119 nf_7_14 rfl (by assumption) ?_
            refine ld_i4 (np := 160) dX7_number_158 rfl ?_
            refine wi_ret dX7_number_160 rfl (rfl) (Nat.le_refl _) (Nat.le_refl _) ?_
            rw [f2, nM_pa]
            exact ⟨h1.2.2.symm, rfl⟩
          · exact absurd nM_wr c_144
        · rw [if_neg (fun h => if0 c_128 ((rlV_in hrl hh hH).2 h.2))]
          refine wl_iconst (np := 132) (v := 1) dX7_number_131 rfl (rfl) ?_
          refine wl_goto (tg := 136) dX7_number_132 rfl ?_
          refine wl_putz (np := 139) dX7_number_136 rfl fl_X7_122 nf_7_15 rfl (by decide) (by assumption) ?_
          rw [nM_pw]
          refine ld_a0 (np := 140) dX7_number_139 rfl ?_
          refine ld_a0 (np := 141) dX7_number_140 rfl ?_
          refine wl_geti (np := 144) dX7_number_141 rfl fl_X7_122 (by decide) (by assumption) ?_
          refine wl_if_eq (np := 147) (tg := 151) dX7_number_144 rfl rfl (fun c_144 => ?_) (fun c_144 => ?_)
          · exact absurd (nM_wr.symm.trans c_144) (by decide)
          · refine ld_i3 (np := 148) dX7_number_147 rfl ?_
            refine wl_goto (tg := 155) dX7_number_148 rfl ?_
            refine wl_puti (np := 158) dX7_number_155 rfl fl_X7_119 nf_7_14 rfl (by assumption) ?_
            refine ld_i4 (np := 160) dX7_number_158 rfl ?_
            refine wi_ret dX7_number_160 rfl (rfl) (Nat.le_refl _) (Nat.le_refl _) ?_
            rw [nM_pa]
            exact rfl
      refine ld_a0 (np := 40) dX7_number_39 rfl ?_
      refine wl_geti (np := 43) dX7_number_40 rfl fl_X7_119 (by decide) (by assumption) ?_
      refine ld_a0 (np := 44) dX7_number_43 rfl ?_
      refine wl_geti (np := 47) dX7_number_44 rfl fl_X7_116 (by decide) (by assumption) ?_
      refine wl_icmp_ge (np := 50) (tg := 117) dX7_number_47 rfl rfl (fun c_47 => ?_) (fun c_47 => ?_)
      · rw [f1, f2, nI_le_iff (by omega) (by omega)] at c_47
        exact fin (by rw [show n - i = 0 by omega]; rfl) (by omega)
      · rw [f1, f2, nI_le_iff (by omega) (by omega)] at c_47
        obtain ⟨kk, hkk⟩ : ∃ kk, n - i = kk + 1 := ⟨n - i - 1, by omega⟩
        refine ld_a0 (np := 51) dX7_number_50 rfl ?_
        refine wl_getr (np := 54) dX7_number_51 rfl fl_X7_34 rfl (by assumption) (by assumption) ?_
        refine ld_a0 (np := 55) dX7_number_54 rfl ?_
        refine wl_geti (np := 58) dX7_number_55 rfl fl_X7_119 (by decide) (by assumption) ?_
        refine wl_ialoadN (np := 59) dX7_number_58 rfl (by first | (simp only [nM_at,nIm, nIa, ← nI_succ]; exact rfl) | exact nI_z | exact nI_o | exact rfl) (by assumption) (by omega) (by first | decide | omega) ?_
        refine wl_i2l (np := 60) dX7_number_59 rfl ?_
        refine wl_ldc2 (np := 63) dX7_number_60 rfl wk_X7_130 ?_
        refine wl_ldc2 (np := 66) dX7_number_63 rfl wk_X7_132 ?_
        refine ciS_3 (np := 69) dX7_number_66 rfl lk_X7_68 (Nat.le_of_ble_eq_true rfl) (by omega) (Nat.le_refl _) (Nat.le_refl _) (c_in32 _ 48 57 (by decide) (by decide)) (fun x_66 m_66 h_66 => ?_)
        obtain ⟨rfl, q_66⟩ := h_66
        have q_66 := q_66.symm
        subst q_66
        refine wl_if_eq (np := 72) (tg := 117) dX7_number_69 rfl rfl (fun c_69 => ?_) (fun c_69 => ?_)
        · have hz := if0 c_69
          rw [f3] at hz
          refine fin (by rw [hkk]; exact if_neg hz) ?_
          rcases hne with q | q
          · exact q
          · exact absurd q.2 hz
        · have hz := if1 c_69
          rw [f3] at hz
          have hdg2 : ∀ v2, v2 = minI (v * 10 + F i - 48) 999999 → dgF F (n - (i + 1)) (i + 1) v2 = dgF F (n - p1) p1 0 := by
            intro v2 hv2
            rw [← hdg, hkk, show n - (i + 1) = kk by omega, hv2]
            exact (if_pos hz).symm
          refine ld_i4 (np := 74) dX7_number_72 rfl ?_
          refine wl_ldc (np := 76) dX7_number_74 rfl wk_X7_134 ?_
          refine wl_icmp_le (np := 79) (tg := 84) dX7_number_76 rfl rfl (fun c_76 => ?_) (fun c_76 => ?_)
          · refine wl_bipush (np := 86) (v := nI 10) dX7_number_84 rfl (by decide) ?_
            refine ld_i4 (np := 88) dX7_number_86 rfl ?_
            refine wl_imul (np := 89) dX7_number_88 rfl ?_
            refine ld_a0 (np := 90) dX7_number_89 rfl ?_
            refine wl_getr (np := 93) dX7_number_90 rfl fl_X7_34 rfl (by assumption) (by assumption) ?_
            refine ld_a0 (np := 94) dX7_number_93 rfl ?_
            refine wl_geti (np := 97) dX7_number_94 rfl fl_X7_119 (by decide) (by assumption) ?_
            refine wl_ialoadN (np := 98) dX7_number_97 rfl (by first | (simp only [nM_at,nIm, nIa, ← nI_succ]; exact rfl) | exact nI_z | exact nI_o | exact rfl) (by assumption) (by omega) (by first | decide | omega) ?_
            refine wl_iadd (np := 99) dX7_number_98 rfl ?_
            refine wl_bipush (np := 101) (v := nI 48) dX7_number_99 rfl (by decide) ?_
            refine wl_isub (np := 102) dX7_number_101 rfl ?_
            refine st_i4 (np := 104) dX7_number_102 rfl (by decide) rfl ?_
            refine ld_a0 (np := 105) dX7_number_104 rfl ?_
            refine wl_dup (np := 106) dX7_number_105 rfl rfl ?_
            refine wl_geti (np := 109) dX7_number_106 rfl fl_X7_119 (by decide) (by assumption) ?_
            refine wl_iconst (np := 110) (v := 1) dX7_number_109 rfl (rfl) ?_
            refine wl_iadd (np := 111) dX7_number_110 rfl ?_
            refine wl_puti (np := 114) dX7_number_111 rfl fl_X7_119 nf_7_14 rfl (by assumption) ?_
            refine wl_goto (tg := 39) dX7_number_114 rfl ?_
            rw [f3, f2, ← nI_succ, nM_pa]
            exact ih (i + 1) _ _ (by omega) (by omega) (by omega) (Or.inl (by omega)) (rlV_step1 hrl hz c_76) (hdg2 _ rfl)
          · refine ld_i4 (np := 81) dX7_number_79 rfl ?_
            refine wl_goto (tg := 102) dX7_number_81 rfl ?_
            refine st_i4 (np := 104) dX7_number_102 rfl (by decide) rfl ?_
            refine ld_a0 (np := 105) dX7_number_104 rfl ?_
            refine wl_dup (np := 106) dX7_number_105 rfl rfl ?_
            refine wl_geti (np := 109) dX7_number_106 rfl fl_X7_119 (by decide) (by assumption) ?_
            refine wl_iconst (np := 110) (v := 1) dX7_number_109 rfl (rfl) ?_
            refine wl_iadd (np := 111) dX7_number_110 rfl ?_
            refine wl_puti (np := 114) dX7_number_111 rfl fl_X7_119 nf_7_14 rfl (by assumption) ?_
            refine wl_goto (tg := 39) dX7_number_114 rfl ?_
            rw [f2, ← nI_succ, nM_pa]
            exact ih (i + 1) _ _ (by omega) (by omega) (by omega) (Or.inl (by omega)) (rlV_step2 hrl hz c_76) (hdg2 _ rfl)
  refine CI.mk (L := [.ref 136, .int lo, .int hi, .float 0, .float 0]) (by decide) (Nat.le_of_ble_eq_true rfl) rfl ?_
  refine ld_a0 (np := 1) dX7_number_0 rfl ?_
  refine wl_geti (np := 4) dX7_number_1 rfl fl_X7_122 (by decide) (by assumption) ?_
  refine wl_if_ne (np := 7) (tg := 24) dX7_number_4 rfl rfl (fun c_4 => ?_) (fun c_4 => ?_)
  · exact absurd nM_wr c_4
  · refine ld_a0 (np := 8) dX7_number_7 rfl ?_
    refine ciV_0 (np := 11) dX7_number_8 rfl lk_X7_126 (by assumption) (Nat.le_of_ble_eq_true rfl) (by omega) (Nat.le_refl _) (Nat.le_refl _) (c_M_here z0 g12 x12 hl hn hF hpn) (fun x_8 m_8 h_8 => ?_)
    obtain ⟨rfl, q_8⟩ := h_8
    have q_8 := q_8.symm
    subst q_8
    refine wl_i2l (np := 12) dX7_number_11 rfl ?_
    refine wl_ldc2 (np := 15) dX7_number_12 rfl wk_X7_130 ?_
    refine wl_ldc2 (np := 18) dX7_number_15 rfl wk_X7_132 ?_
    refine ciS_3 (np := 21) dX7_number_18 rfl lk_X7_68 (Nat.le_of_ble_eq_true rfl) (by omega) (Nat.le_refl _) (Nat.le_refl _) (c_in32 _ 48 57 (by decide) (by decide)) (fun x_18 m_18 h_18 => ?_)
    obtain ⟨rfl, q_18⟩ := h_18
    have q_18 := q_18.symm
    subst q_18
    refine wl_if_ne (np := 24) (tg := 31) dX7_number_21 rfl rfl (fun c_21 => ?_) (fun c_21 => ?_)
    · have hz := if1 c_21
      rw [hp1] at hz ⊢
      have hlt : p1 < n := Classical.byContradiction fun hh => by
        unfold hrI at hz
        rw [if_neg hh] at hz
        exact absurd hz.1 (by decide)
      unfold hrI at hz
      rw [if_pos hlt] at hz
      refine ld_a0 (np := 32) dX7_number_31 rfl ?_
      refine wl_geti (np := 35) dX7_number_32 rfl fl_X7_119 (by decide) (by assumption) ?_
      refine st_i3 (np := 36) dX7_number_35 rfl (by decide) rfl ?_
      refine wl_iconst (np := 37) (v := 0) dX7_number_36 rfl (rfl) ?_
      refine st_i4 (np := 39) dX7_number_37 rfl (by decide) rfl ?_
      rw [nM_at]
      exact key (n + 1) p1 0 0 (by omega) (by omega) (by omega) (Or.inr ⟨hlt, hz⟩) ⟨0, 0, rfl, rfl, by omega, by omega, Or.inl ⟨rfl, by omega⟩⟩ rfl
    · have hz := if0 c_21
      rw [hp1] at hz ⊢
      have en : numS F n p lo hi = (p1, none) := by
        unfold numS
        dsimp only
        rw [hp1, if_neg]
        intro h
        by_cases hlt : p1 < n
        · unfold hrI at hz
          rw [if_pos hlt] at hz
          obtain ⟨kk, hkk⟩ : ∃ kk, n - p1 = kk + 1 := ⟨n - p1 - 1, by omega⟩
          have e : dgF F (n - p1) p1 0 = (p1, 0) := by rw [hkk]; exact if_neg hz
          rw [e] at h
          exact absurd h.1 (Nat.lt_irrefl _)
        · have e : dgF F (n - p1) p1 0 = (p1, 0) := by rw [show n - p1 = 0 by omega]; rfl
          rw [e] at h
          exact absurd h.1 (Nat.lt_irrefl _)
      rw [en]
      refine ld_a0 (np := 25) dX7_number_24 rfl ?_
      refine wl_iconst (np := 26) (v := 1) dX7_number_25 rfl (rfl) ?_
      refine wl_putz (np := 29) dX7_number_26 rfl fl_X7_122 nf_7_15 rfl (by decide) (by assumption) ?_
      refine wl_iconst (np := 30) (v := 0) dX7_number_29 rfl (rfl) ?_
      refine wi_ret dX7_number_30 rfl (rfl) (Nat.le_refl _) (Nat.le_refl _) ?_
      rw [nM_pw]
      exact rfl
end M18
