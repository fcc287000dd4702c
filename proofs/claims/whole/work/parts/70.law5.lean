section LAW
variable {sh : List Shp} {me : Mem} {S : St} {nm : String} {sx : Scr} {Lx k : Nat}
theorem and31 (x : Int32) : ∃ v, v < 32 ∧ x &&& nI 31 = nI v := by
  have hlt : x.toBitVec.toNat &&& 31 < 32 := Nat.lt_of_le_of_lt Nat.and_le_right (by decide)
  refine ⟨x.toBitVec.toNat &&& 31, hlt, ?_⟩
  apply Int32.toBitVec_inj.mp
  apply BitVec.eq_of_toNat_eq
  show (x.toBitVec &&& (nI 31).toBitVec).toNat = (BitVec.ofNat 32 (x.toBitVec.toNat &&& 31)).toNat
  rw [BitVec.toNat_and, BitVec.toNat_ofNat, Nat.mod_eq_of_lt (Nat.lt_trans hlt (by decide))]
  rfl
set_option maxHeartbeats 4000000 in
set_option maxRecDepth 100000 in
theorem law_step (hI : InvL sh me S k) (hsx : sx.1 = Lx + 1) (hL : Lx ≤ 384) (h6 : 6 * k + 6 ≤ Lx) (kc : ∀ m S', InvL sh m S' (k + 1) → Wa (mL nm) sx 20 600000 7302249 0 QL 1174 [.retAddr 0, .ref 0, .ref 136, .int (nI (6 * k))] [] sh m 600000 7302249) : Wa (mL nm) sx 20 600000 7302249 0 QL 27 [.retAddr 0, .ref 0, .ref 136, .int (nI (6 * k))] [] sh me 600000 7302249 := by
  have hb0 := hI.2.2.2.2.2
  refine ldS_a0 (np := 28) dL_law_27 rfl ?_
  refine ld_i3 (np := 29) dL_law_28 rfl ?_
  refine wl_sloadN (np := 30) dL_law_29 rfl hsx hb0 (by first | (simp only [nIm, nIa, ← nI_succ]; exact rfl) | exact nI_z | exact nI_o | exact rfl) (by omega) (by omega) ?_
  refine wl_bipush (np := 32) (v := nI 31) dL_law_30 rfl (by decide) ?_
  refine wl_iand (np := 33) dL_law_32 rfl ?_
  obtain ⟨v, hv, e⟩ := and31 (sx.2 (6 * k))
  rw [e]
  match v, hv with
  | 0, _ =>
    refine wl_tswI (tg := 160) (off := 127) dL_law_33 (by decide) (by decide) (by decide) rfl ?_
    exact law_0 hI hsx hL h6 kc
  | 1, _ =>
    refine wl_tswI (tg := 203) (off := 170) dL_law_33 (by decide) (by decide) (by decide) rfl ?_
    exact law_1 hI hsx hL h6 kc
  | 2, _ =>
    refine wl_tswI (tg := 236) (off := 203) dL_law_33 (by decide) (by decide) (by decide) rfl ?_
    exact law_2 hI hsx hL h6 kc
  | 3, _ =>
    refine wl_tswI (tg := 279) (off := 246) dL_law_33 (by decide) (by decide) (by decide) rfl ?_
    exact law_3 hI hsx hL h6 kc
  | 4, _ =>
    refine wl_tswI (tg := 322) (off := 289) dL_law_33 (by decide) (by decide) (by decide) rfl ?_
    exact law_4 hI hsx hL h6 kc
  | 5, _ =>
    refine wl_tswI (tg := 355) (off := 322) dL_law_33 (by decide) (by decide) (by decide) rfl ?_
    exact law_5 hI hsx hL h6 kc
  | 6, _ =>
    refine wl_tswI (tg := 388) (off := 355) dL_law_33 (by decide) (by decide) (by decide) rfl ?_
    exact law_6 hI hsx hL h6 kc
  | 7, _ =>
    refine wl_tswI (tg := 451) (off := 418) dL_law_33 (by decide) (by decide) (by decide) rfl ?_
    exact law_7 hI hsx hL h6 kc
  | 8, _ =>
    refine wl_tswI (tg := 474) (off := 441) dL_law_33 (by decide) (by decide) (by decide) rfl ?_
    exact law_8 hI hsx hL h6 kc
  | 9, _ =>
    refine wl_tswI (tg := 497) (off := 464) dL_law_33 (by decide) (by decide) (by decide) rfl ?_
    exact law_9 hI hsx hL h6 kc
  | 10, _ =>
    refine wl_tswI (tg := 560) (off := 527) dL_law_33 (by decide) (by decide) (by decide) rfl ?_
    exact law_10 hI hsx hL h6 kc
  | 11, _ =>
    refine wl_tswI (tg := 593) (off := 560) dL_law_33 (by decide) (by decide) (by decide) rfl ?_
    exact law_11 hI hsx hL h6 kc
  | 12, _ =>
    refine wl_tswI (tg := 616) (off := 583) dL_law_33 (by decide) (by decide) (by decide) rfl ?_
    exact law_12 hI hsx hL h6 kc
  | 13, _ =>
    refine wl_tswI (tg := 649) (off := 616) dL_law_33 (by decide) (by decide) (by decide) rfl ?_
    exact law_13 hI hsx hL h6 kc
  | 14, _ =>
    refine wl_tswI (tg := 692) (off := 659) dL_law_33 (by decide) (by decide) (by decide) rfl ?_
    exact law_14 hI hsx hL h6 kc
  | 15, _ =>
    refine wl_tswI (tg := 715) (off := 682) dL_law_33 (by decide) (by decide) (by decide) rfl ?_
    exact law_15 hI hsx hL h6 kc
  | 16, _ =>
    refine wl_tswI (tg := 738) (off := 705) dL_law_33 (by decide) (by decide) (by decide) rfl ?_
    exact law_16 hI hsx hL h6 kc
  | 17, _ =>
    refine wl_tswI (tg := 771) (off := 738) dL_law_33 (by decide) (by decide) (by decide) rfl ?_
    exact law_17 hI hsx hL h6 kc
  | 18, _ =>
    refine wl_tswI (tg := 804) (off := 771) dL_law_33 (by decide) (by decide) (by decide) rfl ?_
    exact law_18 hI hsx hL h6 kc
  | 19, _ =>
    refine wl_tswI (tg := 827) (off := 794) dL_law_33 (by decide) (by decide) (by decide) rfl ?_
    exact law_19 hI hsx hL h6 kc
  | 20, _ =>
    refine wl_tswI (tg := 860) (off := 827) dL_law_33 (by decide) (by decide) (by decide) rfl ?_
    exact law_20 hI hsx hL h6 kc
  | 21, _ =>
    refine wl_tswI (tg := 913) (off := 880) dL_law_33 (by decide) (by decide) (by decide) rfl ?_
    exact law_21 hI hsx hL h6 kc
  | 22, _ =>
    refine wl_tswI (tg := 926) (off := 893) dL_law_33 (by decide) (by decide) (by decide) rfl ?_
    exact law_22 hI hsx hL h6 kc
  | 23, _ =>
    refine wl_tswI (tg := 939) (off := 906) dL_law_33 (by decide) (by decide) (by decide) rfl ?_
    exact law_23 hI hsx hL h6 kc
  | 24, _ =>
    refine wl_tswI (tg := 992) (off := 959) dL_law_33 (by decide) (by decide) (by decide) rfl ?_
    exact law_24 hI hsx hL h6 kc
  | 25, _ =>
    refine wl_tswI (tg := 1035) (off := 1002) dL_law_33 (by decide) (by decide) (by decide) rfl ?_
    exact law_25 hI hsx hL h6 kc
  | 26, _ =>
    refine wl_tswI (tg := 1058) (off := 1025) dL_law_33 (by decide) (by decide) (by decide) rfl ?_
    exact law_26 hI hsx hL h6 kc
  | 27, _ =>
    refine wl_tswI (tg := 1111) (off := 1078) dL_law_33 (by decide) (by decide) (by decide) rfl ?_
    exact law_27 hI hsx hL h6 kc
  | v + 28, hv =>
    refine wl_tswO (tg := 1174) dL_law_33 (Or.inr ?_) rfl ?_
    · rw [nI_toInt (by omega)]
      omega
    · exact kc me S ⟨hI.1, hI.2.1, hI.2.2.1, hI.2.2.2.1, hI.2.2.2.2.1.up, hb0⟩
set_option maxHeartbeats 4000000 in
set_option maxRecDepth 100000 in
theorem law_loop (hsx : sx.1 = Lx + 1) (hL : Lx ≤ 384) : ∀ fu k, k + fu = 65 → ∀ me S, InvL sh me S k → Wa (mL nm) sx 20 600000 7302249 0 QL 18 [.retAddr 0, .ref 0, .ref 136, .int (nI (6 * k))] [] sh me 600000 7302249 := by
  intro fu
  induction fu with
  | zero =>
    intro k hk me S hI
    have hb0 := hI.2.2.2.2.2
    have e6 : (nI Lx - nI 6).toInt = (Lx : Int) - 6 := by
      have h1 := nI_toInt (n := Lx) (by omega)
      have h2 := nI_toInt (n := 6) (by decide)
      rw [ti_sub (by omega) (by omega)]
      omega
    have ek := nI_toInt (n := 6 * k) (by omega)
    refine ld_i3 (np := 19) dL_law_18 rfl ?_
    refine ldS_a0 (np := 20) dL_law_19 rfl ?_
    refine wl_slen (np := 21) dL_law_20 rfl (by omega) hb0 ?_
    rw [show Int32.ofNat (sx.1 - 1) = nI Lx by rw [hsx]; rfl]
    refine wl_bipush (np := 23) (v := nI 6) dL_law_21 rfl (by decide) ?_
    refine wl_isub (np := 24) dL_law_23 rfl ?_
    refine wl_icmp_gt (np := 27) (tg := 1180) dL_law_24 rfl rfl (fun c_24 => ?_) (fun c_24 => ?_)
    · refine wl_iconst (np := 1181) (v := 1) dL_law_1180 rfl rfl ?_
      exact wl_iret (ty := .boolean) dL_law_1181 rfl (by decide) (Nat.le_refl _) (Nat.le_refl _) rfl
    · rw [Int32.lt_iff_toInt_lt] at c_24
      omega
  | succ fu ih =>
    intro k hk me S hI
    have hb0 := hI.2.2.2.2.2
    have e6 : (nI Lx - nI 6).toInt = (Lx : Int) - 6 := by
      have h1 := nI_toInt (n := Lx) (by omega)
      have h2 := nI_toInt (n := 6) (by decide)
      rw [ti_sub (by omega) (by omega)]
      omega
    have ek := nI_toInt (n := 6 * k) (by omega)
    refine ld_i3 (np := 19) dL_law_18 rfl ?_
    refine ldS_a0 (np := 20) dL_law_19 rfl ?_
    refine wl_slen (np := 21) dL_law_20 rfl (by omega) hb0 ?_
    rw [show Int32.ofNat (sx.1 - 1) = nI Lx by rw [hsx]; rfl]
    refine wl_bipush (np := 23) (v := nI 6) dL_law_21 rfl (by decide) ?_
    refine wl_isub (np := 24) dL_law_23 rfl ?_
    refine wl_icmp_gt (np := 27) (tg := 1180) dL_law_24 rfl rfl (fun c_24 => ?_) (fun c_24 => ?_)
    · refine wl_iconst (np := 1181) (v := 1) dL_law_1180 rfl rfl ?_
      exact wl_iret (ty := .boolean) dL_law_1181 rfl (by decide) (Nat.le_refl _) (Nat.le_refl _) rfl
    · rw [Int32.lt_iff_toInt_lt] at c_24
      refine law_step hI hsx hL (by omega) (fun m S' hI' => ?_)
      refine inc_3 (np := 1177) (v := _ + 6) dL_law_1174 rfl rfl (Nat.le_of_ble_eq_true rfl) rfl ?_
      refine wl_goto (tg := 18) dL_law_1177 rfl ?_
      have e : nI (6 * k) + 6 = nI (6 * (k + 1)) := by
        show nI (6 * k) + nI 6 = _
        rw [nIa]
        rfl
      rw [e]
      exact ih (k + 1) (by omega) m S' hI'
set_option maxHeartbeats 4000000 in
set_option maxRecDepth 100000 in
theorem law_all {xs : Nat → Int32} (hL : Lx ≤ 384) : Wa (mL nm) (Lx + 1, xs) 20 600000 7302249 0 QL 0 [.retAddr 0, .float 0, .float 0, .float 0] [] [] me0 0 0 := by
  refine wl_newL (np := 3) (n := 0) (F := 9) dL_law_0 rfl nk_L_7 rfl (by first | rfl | exact sh1_len | decide +kernel) (by first | exact zr0 | exact zrK) (by omega) (by omega) (by (repeat first | refine Rfs.ref (by omega) ?_ | refine Rfs.int ?_ | refine Rfs.flt ?_ | refine Rfs.scr ?_); exact Rfs.nil) (by (repeat first | refine Rfs.ref (by omega) ?_ | refine Rfs.int ?_ | refine Rfs.flt ?_ | refine Rfs.scr ?_); exact Rfs.nil) (by omega) (by omega) ?_
  refine wl_dup (np := 4) dL_law_3 rfl rfl ?_
  refine wl_callI (np := 7) (n := 1) (n2 := 136) dL_law_4 rfl lki_L_9 (Nat.le_of_ble_eq_true rfl) (by omega) (by omega) (by omega) (by first | rfl | exact sh1_len | decide +kernel) (by first | rfl | exact sh1_len | decide +kernel) (by omega) (by omega) (by omega) (by (repeat first | refine Rfs.ref (by omega) ?_ | refine Rfs.int ?_ | refine Rfs.flt ?_ | refine Rfs.scr ?_); exact Rfs.nil) (by (repeat first | refine Rfs.ref (by omega) ?_ | refine Rfs.int ?_ | refine Rfs.flt ?_ | refine Rfs.scr ?_); exact Rfs.nil) (c_C_init rfl rfl (zr0.up (by omega)) (by omega)) ?_
  refine st_a1 (np := 8) dL_law_7 rfl (Nat.le_of_ble_eq_true rfl) rfl ?_
  refine wl_newL (np := 11) (n := 136) (F := 28) dL_law_8 rfl nk_L_10 rfl (by first | rfl | exact sh1_len | decide +kernel) (by first | exact zr0 | exact zrK) (by omega) (by omega) (by (repeat first | refine Rfs.ref (by omega) ?_ | refine Rfs.int ?_ | refine Rfs.flt ?_ | refine Rfs.scr ?_); exact Rfs.nil) (by (repeat first | refine Rfs.ref (by omega) ?_ | refine Rfs.int ?_ | refine Rfs.flt ?_ | refine Rfs.scr ?_); exact Rfs.nil) (by omega) (by omega) ?_
  refine wl_dup (np := 12) dL_law_11 rfl rfl ?_
  refine wl_callI (np := 15) (n := 137) (n2 := 154) dL_law_12 rfl lki_L_12 (Nat.le_of_ble_eq_true rfl) (by omega) (by omega) (by omega) (by first | rfl | exact sh1_len | decide +kernel) (by first | rfl | exact sh1_len | decide +kernel) (by omega) (by omega) (by omega) (by (repeat first | refine Rfs.ref (by omega) ?_ | refine Rfs.int ?_ | refine Rfs.flt ?_ | refine Rfs.scr ?_); exact Rfs.nil) (by (repeat first | refine Rfs.ref (by omega) ?_ | refine Rfs.int ?_ | refine Rfs.flt ?_ | refine Rfs.scr ?_); exact Rfs.nil) (c_Mo_init (apE sh1_len) (by decide +kernel) (zrK.up (by omega)) (by omega)) ?_
  refine st_a2 (np := 16) dL_law_15 rfl (Nat.le_of_ble_eq_true rfl) rfl ?_
  refine wl_iconst (np := 17) (v := 0) dL_law_16 rfl (rfl) ?_
  refine st_i3 (np := 18) dL_law_17 rfl (Nat.le_of_ble_eq_true rfl) rfl ?_
  exact Wa.up (by omega) (by omega) (law_loop (Lx := Lx) (sh := shF) rfl hL 65 0 rfl meF S0 ⟨fixC_F, fixM_F, repC_F, repM_F, ok_S0, by rw [shF_len]; decide⟩)
end LAW
