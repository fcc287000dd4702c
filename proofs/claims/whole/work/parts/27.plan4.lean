/-- the best order of one at q: days, paid, order -/
def planM (me : Mem) (q n : Nat) (off : Int32) : Bpl := foldB [] (fun o => sim (gI me (q + 3)) (taxF me q) (gI me q 7) n o (2 ^ n - 1) 0 (gI me q 6) (gI me (q + 2)) 0) (361, 0, []) (comp off n (2 ^ n - 1))
theorem full_facts : ∀ n, n ≤ 6 → 2 ^ n - 1 < 64 ∧ cntB (2 ^ n - 1) = n ∧ ∀ c, c < 6 → (2 ^ n - 1).testBit c = true → c < n := by decide +kernel
section PLAN4
variable {sh : List Shp} {me : Mem} {d pl q n : Nat}
set_option maxHeartbeats 4000000 in
set_option maxRecDepth 100000 in
theorem c_plan (off : Int32) (hpl : isPl sh me pl) (hq : isP sh me q) (hqp : q + 6 ≤ pl) (hw : gI me q 5 = nI n) (hn6 : n ≤ 6) (hl : ∀ c, c < n → ∃ l, l < 5 ∧ gI me (q + 1) c = nI l) (hD : okD (gI me (q + 3)) (taxF me q) (gI me q 7) n) (hp : okp (gI me q 6)) (hA : okA (gI me (q + 2)) n) (hd : 17 ≤ d) :
    CV d mX2_plan sh [.ref pl, .ref q, .int off] me (fun m => (m.2 = (uR me pl 3 (some q)).2 ∧ ∀ a, ¬ (pl ≤ a ∧ a < pl + 11) → m.1 a = me.1 a) ∧ RepBest m pl (planM me q n off)) := by
  have hpls := hpl
  have hqs := hq
  obtain ⟨p0, p1, p2, p3, p4, u0, u1, u2, u3⟩ := hpl
  obtain ⟨s0, s1, s2, s3, s4, s5, r0, r1, r2, r3, r4⟩ := hq
  have sA0 := p2 0 (by omega)
  have v0 : gR (uR me pl 3 (some q)) pl 0 = some (pl + 1) := by rw [gR_uR, if_neg (by omega)]; exact u0
  have v1 : gR (uR me pl 3 (some q)) pl 1 = some (pl + 9) := by rw [gR_uR, if_neg (by omega)]; exact u1
  have v2 : gR (uR me pl 3 (some q)) pl 2 = some (pl + 10) := by rw [gR_uR, if_neg (by omega)]; exact u2
  have v3 : ∀ i, i < 7 → gR (uR me pl 3 (some q)) (pl + 1) i = some (pl + 2 + i) := fun i hi => by rw [gR_uR, if_neg (by omega)]; exact u3 i hi
  have v4 : gR (uR me pl 3 (some q)) pl 3 = some q := by rw [gR_uR, if_pos ⟨rfl, rfl⟩]
  have w0 : gR (uR me pl 3 (some q)) q 0 = some (q + 1) := by rw [gR_uR, if_neg (by omega)]; exact r0
  have w1 : gR (uR me pl 3 (some q)) q 1 = some (q + 2) := by rw [gR_uR, if_neg (by omega)]; exact r1
  have w2 : gR (uR me pl 3 (some q)) q 2 = some (q + 3) := by rw [gR_uR, if_neg (by omega)]; exact r2
  have w3 : gR (uR me pl 3 (some q)) q 3 = some (q + 4) := by rw [gR_uR, if_neg (by omega)]; exact r3
  have w4 : gR (uR me pl 3 (some q)) q 4 = some (q + 5) := by rw [gR_uR, if_neg (by omega)]; exact r4
  have hplR : isPl sh (uR me pl 3 (some q)) pl := ⟨p0, p1, p2, p3, p4, v0, v1, v2, v3⟩
  have hqR : isP sh (uR me pl 3 (some q)) q := ⟨s0, s1, s2, s3, s4, s5, w0, w1, w2, w3, w4⟩
  have v30 : gR (uR me pl 3 (some q)) (pl + 1) (0 : Int32).toNatClampNeg = some (pl + 2 + 0) := v3 0 (by omega)
  refine CV.mk (L := [.ref pl, .ref q, .int off]) (by decide) (Nat.le_of_ble_eq_true rfl) rfl ?_
  refine ld_a0 (np := 1) dX2_plan_0 rfl ?_
  refine ld_a1 (np := 2) dX2_plan_1 rfl ?_
  refine wl_putr (np := 5) dX2_plan_2 rfl fl_X2_23 nf_2_3 rfl (by assumption) ?_
  refine ld_a0 (np := 6) dX2_plan_5 rfl ?_
  refine ld_i2 (np := 7) dX2_plan_6 rfl ?_
  refine wl_puti (np := 10) dX2_plan_7 rfl fl_X2_27 nf_2_4 rfl (by assumption) ?_
  refine ld_a0 (np := 11) dX2_plan_10 rfl ?_
  refine wl_sipush (np := 14) (v := 361) dX2_plan_11 rfl (by decide) ?_
  refine wl_puti (np := 17) dX2_plan_14 rfl fl_X2_31 nf_2_5 rfl (by assumption) ?_
  refine ld_a0 (np := 18) dX2_plan_17 rfl ?_
  refine wl_iconst (np := 19) (v := 0) dX2_plan_18 rfl (rfl) ?_
  refine wl_puti (np := 22) dX2_plan_19 rfl fl_X2_34 nf_2_6 rfl (by assumption) ?_
  refine ld_a1 (np := 23) dX2_plan_22 rfl ?_
  refine wl_getr (np := 26) dX2_plan_23 rfl fl_X2_37 rfl (by assumption) (by assumption) ?_
  refine wl_iconst (np := 27) (v := 0) dX2_plan_26 rfl (rfl) ?_
  refine ld_a0 (np := 28) dX2_plan_27 rfl ?_
  refine wl_getr (np := 31) dX2_plan_28 rfl fl_X2_11 rfl (by assumption) (by assumption) ?_
  refine wl_iconst (np := 32) (v := 0) dX2_plan_31 rfl (rfl) ?_
  refine wl_aaload (np := 33) dX2_plan_32 rfl (by assumption) (by decide) (vp_in_nI (n := 0) (by omega) (by decide)) (by assumption) ?_
  refine wl_iconst (np := 34) (v := 0) dX2_plan_33 rfl (rfl) ?_
  refine wl_bipush (np := 36) (v := 8) dX2_plan_34 rfl (by decide) ?_
  refine wl_copy (np := 39) dX2_plan_36 rfl lk_X2_42 (Nat.le_of_ble_eq_true rfl) (by omega) (by assumption) (by assumption) (by decide) (by decide) (by decide) (Nat.le_of_ble_eq_true rfl) (Nat.le_of_ble_eq_true rfl) ?_
  have mne : ∀ x, x ≠ pl → x ≠ pl + 2 + 0 → gI (uA (uI (uI (uI (uR me pl 3 (some q)) pl 4 off) pl 5 361) pl 6 0) (pl + 2 + 0) (va_cpy (gI (uI (uI (uI (uR me pl 3 (some q)) pl 4 off) pl 5 361) pl 6 0) (q + 2)) (gI (uI (uI (uI (uR me pl 3 (some q)) pl 4 off) pl 5 361) pl 6 0) (pl + 2 + 0)) (0 : Int32).toNatClampNeg (0 : Int32).toNatClampNeg (8 : Int32).toNatClampNeg)) x = gI me x := fun x h1 h2 => by
    funext b
    rw [gI_uA, if_neg h2, gI_uI_ne h1, gI_uI_ne h1, gI_uI_ne h1]
    rfl
  have mae : ∀ e, e < 8 → gI (uA (uI (uI (uI (uR me pl 3 (some q)) pl 4 off) pl 5 361) pl 6 0) (pl + 2 + 0) (va_cpy (gI (uI (uI (uI (uR me pl 3 (some q)) pl 4 off) pl 5 361) pl 6 0) (q + 2)) (gI (uI (uI (uI (uR me pl 3 (some q)) pl 4 off) pl 5 361) pl 6 0) (pl + 2 + 0)) (0 : Int32).toNatClampNeg (0 : Int32).toNatClampNeg (8 : Int32).toNatClampNeg)) (pl + 2 + 0) e = gI me (q + 2) e := fun e he => by
    rw [gI_uA, if_pos rfl]
    have e0 : (0 : Int32).toNatClampNeg = 0 := rfl
    have e8 : (8 : Int32).toNatClampNeg = 8 := rfl
    unfold va_cpy
    rw [e0, e8, if_pos (by omega), Nat.zero_add, Nat.sub_zero, gI_uI_ne (by omega), gI_uI_ne (by omega), gI_uI_ne (by omega)]
    rfl
  have m4 : gI (uA (uI (uI (uI (uR me pl 3 (some q)) pl 4 off) pl 5 361) pl 6 0) (pl + 2 + 0) (va_cpy (gI (uI (uI (uI (uR me pl 3 (some q)) pl 4 off) pl 5 361) pl 6 0) (q + 2)) (gI (uI (uI (uI (uR me pl 3 (some q)) pl 4 off) pl 5 361) pl 6 0) (pl + 2 + 0)) (0 : Int32).toNatClampNeg (0 : Int32).toNatClampNeg (8 : Int32).toNatClampNeg)) pl 4 = off := by
    rw [gI_uA, if_neg (by omega), gI_uI_nb (by omega), gI_uI_nb (by omega), gI_uI_self]
  have m5 : gI (uA (uI (uI (uI (uR me pl 3 (some q)) pl 4 off) pl 5 361) pl 6 0) (pl + 2 + 0) (va_cpy (gI (uI (uI (uI (uR me pl 3 (some q)) pl 4 off) pl 5 361) pl 6 0) (q + 2)) (gI (uI (uI (uI (uR me pl 3 (some q)) pl 4 off) pl 5 361) pl 6 0) (pl + 2 + 0)) (0 : Int32).toNatClampNeg (0 : Int32).toNatClampNeg (8 : Int32).toNatClampNeg)) pl 5 = nI 361 := by
    rw [gI_uA, if_neg (by omega), gI_uI_nb (by omega), gI_uI_self]; rfl
  have m6 : gI (uA (uI (uI (uI (uR me pl 3 (some q)) pl 4 off) pl 5 361) pl 6 0) (pl + 2 + 0) (va_cpy (gI (uI (uI (uI (uR me pl 3 (some q)) pl 4 off) pl 5 361) pl 6 0) (q + 2)) (gI (uI (uI (uI (uR me pl 3 (some q)) pl 4 off) pl 5 361) pl 6 0) (pl + 2 + 0)) (0 : Int32).toNatClampNeg (0 : Int32).toNatClampNeg (8 : Int32).toNatClampNeg)) pl 6 = 0 := by
    rw [gI_uA, if_neg (by omega), gI_uI_self]
  have mR : (uA (uI (uI (uI (uR me pl 3 (some q)) pl 4 off) pl 5 361) pl 6 0) (pl + 2 + 0) (va_cpy (gI (uI (uI (uI (uR me pl 3 (some q)) pl 4 off) pl 5 361) pl 6 0) (q + 2)) (gI (uI (uI (uI (uR me pl 3 (some q)) pl 4 off) pl 5 361) pl 6 0) (pl + 2 + 0)) (0 : Int32).toNatClampNeg (0 : Int32).toNatClampNeg (8 : Int32).toNatClampNeg)).2 = (uR me pl 3 (some q)).2 := rfl
  generalize hM1 : uA (uI (uI (uI (uR me pl 3 (some q)) pl 4 off) pl 5 361) pl 6 0) (pl + 2 + 0) (va_cpy (gI (uI (uI (uI (uR me pl 3 (some q)) pl 4 off) pl 5 361) pl 6 0) (q + 2)) (gI (uI (uI (uI (uR me pl 3 (some q)) pl 4 off) pl 5 361) pl 6 0) (pl + 2 + 0)) (0 : Int32).toNatClampNeg (0 : Int32).toNatClampNeg (8 : Int32).toNatClampNeg) = m1 at mne mae m4 m5 m6 mR ⊢
  clear hM1
  obtain ⟨I1, R1⟩ := m1
  obtain rfl : R1 = (uR me pl 3 (some q)).2 := mR
  have gq : ∀ k, k < 6 → gI (I1, (uR me pl 3 (some q)).2) (q + k) = gI me (q + k) := fun k hk => mne _ (by omega) (by omega)
  have htx : taxF (I1, (uR me pl 3 (some q)).2) q = taxF me q := by
    funext c
    unfold taxF
    rw [gq 1 (by omega), gq 5 (by omega)]
  have hSm : PlS sh (I1, (uR me pl 3 (some q)).2) pl q n off (gI me q 7) (gI me (q + 3)) (taxF me q) := by
    refine ⟨hplR.of rfl, v4, hqR.of rfl, (congrFun (gq 0 (by omega)) 5).trans hw, congrFun (gq 0 (by omega)) 7, m4, fun c hc => congrFun (gq 3 (by omega)) c, fun c hc => by rw [htx], fun c hc => by rw [gq 1 (by omega)]; exact hl c hc⟩
  obtain ⟨f1, f2, f3⟩ := full_facts n hn6
  have hcall := c_tryEach hqp hn6 hD n (d - 1) (2 ^ n - 1) 0 (gI me q 6) 0 (gI me (q + 2)) (361, 0, []) [] (I1, (uR me pl 3 (some q)).2) (by omega) hSm f1 f3 f2 (by simp) (by omega) hp hA (fun i o ho => by simp at ho) (fun c hc => mae c hc) ⟨m5, by dsimp only; omega, m6, fun h => by dsimp only at h; omega⟩
  have hq5 : gI (I1, (uR me pl 3 (some q)).2) q 5 = nI n := hSm.2.2.2.1
  have hq6 : gI (I1, (uR me pl 3 (some q)).2) q 6 = gI me q 6 := congrFun (gq 0 (by omega)) 6
  refine ld_a0 (np := 40) dX2_plan_39 rfl ?_
  refine wl_iconst (np := 41) (v := 0) dX2_plan_40 rfl (rfl) ?_
  refine ld_a1 (np := 42) dX2_plan_41 rfl ?_
  refine ciV_0 (np := 45) dX2_plan_42 rfl lk_X2_48 (by assumption) (Nat.le_of_ble_eq_true rfl) (by omega) (Nat.le_refl _) (Nat.le_refl _) (c_wornSet (hqR.of rfl)) (fun x_42 m_42 h_42 => ?_)
  obtain ⟨rfl, q_42⟩ := h_42
  have q_42 := q_42.symm
  subst q_42
  refine wl_iconst (np := 46) (v := 0) dX2_plan_45 rfl (rfl) ?_
  refine ld_a1 (np := 47) dX2_plan_46 rfl ?_
  refine wl_geti (np := 50) dX2_plan_47 rfl fl_X2_52 (by decide) (by assumption) ?_
  refine wl_iconst (np := 51) (v := 0) dX2_plan_50 rfl (rfl) ?_
  refine cvV_5 (np := 54) dX2_plan_51 rfl lk_X2_55 (by assumption) (Nat.le_of_ble_eq_true rfl) (by omega) (Nat.le_refl _) (Nat.le_refl _) (by rw [hq5, hq6]; have hws := ws_all n (by omega); unfold wsI at hws; rw [hws]; exact hcall) (fun m_51 h_51 => ?_)
  obtain ⟨e1, e2, e3, e4, e5⟩ := h_51
  refine wv_ret dX2_plan_54 rfl (Nat.le_refl _) (Nat.le_refl _) ?_
  refine ⟨⟨e1.1, fun a ha => ?_⟩, e3⟩
  exact (e1.2 a ha).trans (mne a (by omega) (by omega))
end PLAN4
