def nxF (off : Int32) (m c : Nat) : List Nat := (List.range' c (6 - c)).filter (fun c => m.testBit c && mayN off m c)
theorem nxF_0 (off : Int32) (m : Nat) : nxF off m 0 = nexts off m := rfl
theorem nxF_step {off : Int32} {m c : Nat} (hc : c < 6) : nxF off m c = if (m.testBit c && mayN off m c) = true then c :: nxF off m (c + 1) else nxF off m (c + 1) := by
  unfold nxF
  rw [show 6 - c = (6 - (c + 1)) + 1 by omega, List.range'_succ, List.filter_cons]
theorem nxF_end {off : Int32} {m n c : Nat} (hb : ∀ c, c < 6 → m.testBit c = true → c < n) (hc : n ≤ c) : nxF off m c = [] := by
  unfold nxF
  rw [List.filter_eq_nil_iff]
  intro e he
  rw [List.mem_range'_1] at he
  intro q
  simp only [Bool.and_eq_true] at q
  have := hb e (by omega) q.1
  omega
section PLAN3
variable {sh : List Shp} {pl q n : Nat} {off inc : Int32} {r t : Nat → Int32}
set_option maxHeartbeats 4000000 in
set_option maxRecDepth 100000 in
theorem c_tryEach (hqp : q + 6 ≤ pl) (hn6 : n ≤ 6) (hD : okD r t inc n) : ∀ k, TryC sh pl q n off inc r t k := by
  intro k
  induction k with
  | zero =>
    intro d mask day p pd A B pre m hd hS hm hbits hcnt hpre hday hp hA hord ham hB
    have hm0 : mask = 0 := (cnt_zero mask hm).mp hcnt
    subst hm0
    obtain ⟨hpl, hwho, hq, hw, hinc, hoff, hrr, htt, hll⟩ := hS
    have hpls := hpl
    obtain ⟨p0, p1, p2, p3, p4, u0, u1, u2, u3⟩ := hpl
    refine CV.mk (L := [.ref pl, .int (nI pre.length), .int (nI 0), .int (nI day), .int p, .int pd, .float 0]) (by decide) (Nat.le_of_ble_eq_true rfl) rfl ?_
    refine ld_i2 (np := 1) dX2_tryEach_0 rfl ?_
    refine wl_if_ne (np := 4) (tg := 13) dX2_tryEach_1 rfl rfl (fun c_1 => ?_) (fun c_1 => ?_)
    · exact absurd rfl c_1
    · refine ld_a0 (np := 5) dX2_tryEach_4 rfl ?_
      refine ld_i1 (np := 6) dX2_tryEach_5 rfl ?_
      refine ld_i3 (np := 7) dX2_tryEach_6 rfl ?_
      refine ld_i5 (np := 9) dX2_tryEach_7 rfl ?_
      refine cvV_3 (np := 12) dX2_tryEach_9 rfl lk_X2_59 (by assumption) (Nat.le_of_ble_eq_true rfl) (by omega) (Nat.le_refl _) (Nat.le_refl _) (c_P_keep (k := pre.length) (nI day) pd hpls (by omega) (by omega)) (fun m_9 h_9 => ?_)
      have hfold : foldB pre (fun o => sim r t inc n o 0 day p A pd) B (comp off 0 0) = keepB B day pd (pre ++ []) := rfl
      obtain ⟨b1, b2, b3, b4⟩ := hB
      have hcond : (nI day < gI m pl 5 ∨ (nI day = gI m pl 5 ∧ pd < gI m pl 6)) ↔ (day < B.1 ∨ (day = B.1 ∧ pd < B.2.1)) := by
        rw [b1, b3, nI_ltI (by omega) (by omega), nI_eq (by omega) (by omega)]
      refine wv_ret dX2_tryEach_12 rfl (Nat.le_refl _) (Nat.le_refl _) ?_
      rw [hfold, List.append_nil, h_9]
      unfold keepB
      by_cases hh : day < B.1 ∨ (day = B.1 ∧ pd < B.2.1)
      · rw [if_pos hh, if_pos (hcond.mpr hh)]
        have e0 : ∀ x, x ≠ pl → x ≠ pl + 10 → gI (keepPM m pl pre.length (nI day) pd) x = gI m x := fun x h1 h2 => by
          funext b
          unfold keepPM
          rw [gI_uA, if_neg h2, gI_uI_ne h1, gI_uI_ne h1]
        refine ⟨⟨rfl, fun x hx => e0 x (by omega) (by omega)⟩, ?_, ⟨?_, by dsimp only; omega, ?_, fun _ => ⟨by dsimp only; omega, fun i o ho => ?_⟩⟩, fun i hi => congrFun (e0 _ (by omega) (by omega)) i, fun j hj => e0 _ (by omega) (by omega)⟩
        · unfold keepPM; rw [gI_uA, if_neg (by omega), gI_uI_nb (by omega), gI_uI_nb (by omega)]
        · unfold keepPM; rw [gI_uA, if_neg (by omega), gI_uI_nb (by omega), gI_uI_self]
        · unfold keepPM; rw [gI_uA, if_neg (by omega), gI_uI_self]
        · have hi : i < pre.length := (List.getElem?_eq_some_iff.mp ho).1
          unfold keepPM
          rw [gI_uA, if_pos rfl]
          unfold va_cpy
          rw [if_pos (by omega), Nat.zero_add, Nat.sub_zero]
          exact hord i o ho
      · rw [if_neg hh, if_neg (fun q => hh (hcond.mp q))]
        exact ⟨Onl.rf, rfl, ⟨b1, b2, b3, b4⟩, fun _ _ => rfl, fun _ _ => rfl⟩
  | succ k ihk =>
    intro d mask day p pd A B pre m hd hS hm hbits hcnt hpre hday hp hA hord ham hB
    have hm0 : mask ≠ 0 := fun q => by rw [(cnt_zero mask hm).mpr q] at hcnt; omega
    have hS0 := hS
    obtain ⟨hpl, hwho, hq, hw, hinc, hoff, hrr, htt, hll⟩ := hS
    obtain ⟨p0, p1, p2, p3, p4, u0, u1, u2, u3⟩ := hpl
    have sP := hq.1
    generalize hTG : foldB pre (fun o => sim r t inc n o mask day p A pd) B (comp off (k + 1) mask) = TG
    have key : ∀ fuel c (mm : Mem) (B' : Bpl), n - c < fuel → c ≤ n → PlPost m mm pl pre.length pre.length B' → foldB pre (fun o => sim r t inc n o mask day p A pd) B' ((nxF off mask c).flatMap (fun c => (comp off k (mask - 2 ^ c)).map (fun o => c :: o))) = TG →
        Wa mX2_tryEach (0, fun _ => 0) d 0 0 sh.length (PV sh (fun m' => PlPost m m' pl pre.length pre.length TG)) 30 [.ref pl, .int (nI pre.length), .int (nI mask), .int (nI day), .int p, .int pd, .int (nI c)] [] sh mm 0 0 := by
      intro fuel
      induction fuel with
      | zero => intro c mm B' hf; omega
      | succ fuel ih =>
        intro c mm B' hf hcn hpost hfo
        obtain ⟨hO, ho4, hBm, hor, hje⟩ := id hpost
        obtain ⟨I1, R1⟩ := mm
        obtain rfl : R1 = m.2 := hO.1
        have hSm : PlS sh (I1, m.2) pl q n off inc r t := hS0.fr hqp hO ho4
        have hw1 := hSm.2.2.2.1
        have ho1 := hSm.2.2.2.2.2.1
        refine ld_i6 (np := 32) dX2_tryEach_30 rfl ?_
        refine ld_a0 (np := 33) dX2_tryEach_32 rfl ?_
        refine wl_getr (np := 36) dX2_tryEach_33 rfl fl_X2_23 rfl (by assumption) (by assumption) ?_
        refine wl_geti (np := 39) dX2_tryEach_36 rfl fl_X2_63 (by decide) (by assumption) ?_
        refine wl_icmp_ge (np := 42) (tg := 89) dX2_tryEach_39 rfl rfl (fun c_39 => ?_) (fun c_39 => ?_)
        · rw [hw1, nI_le_iff (by omega) (by omega)] at c_39
          refine wv_ret dX2_tryEach_89 rfl (Nat.le_refl _) (Nat.le_refl _) ?_
          rw [nxF_end hbits c_39] at hfo
          have : B' = TG := hfo
          rw [← this]
          exact hpost
        · rw [hw1, nI_le_iff (by omega) (by omega)] at c_39
          rw [nxF_step (by omega)] at hfo
          have skip : ¬ (mask.testBit c && mayN off mask c) = true → Wa mX2_tryEach (0, fun _ => 0) d 0 0 sh.length (PV sh (fun m' => PlPost m m' pl pre.length pre.length TG)) 83 [.ref pl, .int (nI pre.length), .int (nI mask), .int (nI day), .int p, .int pd, .int (nI c)] [] sh (I1, m.2) 0 0 := by
            intro hno
            rw [if_neg hno] at hfo
            refine inc_6 (np := 86) (v := _ + 1) dX2_tryEach_83 rfl rfl (by decide) rfl ?_
            refine wl_goto (tg := 30) dX2_tryEach_86 rfl ?_
            rw [← nI_succ]
            exact ih (c + 1) _ B' (by omega) (by omega) hpost hfo
          refine ld_i2 (np := 43) dX2_tryEach_42 rfl ?_
          refine ld_i6 (np := 45) dX2_tryEach_43 rfl ?_
          refine ciSN_2 (np := 48) dX2_tryEach_45 rfl lk_X2_66 (Nat.le_of_ble_eq_true rfl) (by omega) (Nat.le_refl _) (Nat.le_refl _) (c_isIn _ _) (fun x_45 m_45 h_45 => ?_)
          obtain ⟨rfl, q_45⟩ := h_45
          have q_45 := q_45.symm
          subst q_45
          refine wl_if_eq (np := 51) (tg := 83) dX2_tryEach_48 rfl rfl (fun c_48 => ?_) (fun c_48 => ?_)
          · have hz : (nI mask >>> (nI c &&& 31)) &&& 1 = 0 := Classical.byContradiction fun h => by rw [if_neg h] at c_48; exact absurd c_48 (by decide)
            refine skip (fun q => ?_)
            rw [(bit_all mask hm c (by omega)).mp hz] at q
            simp at q
          · have hz : ¬ (nI mask >>> (nI c &&& 31)) &&& 1 = 0 := fun h => by rw [if_pos h] at c_48; exact c_48 rfl
            have htb : mask.testBit c = true := by
              cases hb : mask.testBit c with
              | true => rfl
              | false => exact absurd ((bit_all mask hm c (by omega)).mpr hb) hz
            refine ld_a0 (np := 52) dX2_tryEach_51 rfl ?_
            refine wl_geti (np := 55) dX2_tryEach_52 rfl fl_X2_27 (by decide) (by assumption) ?_
            refine ld_i2 (np := 56) dX2_tryEach_55 rfl ?_
            refine ld_i6 (np := 58) dX2_tryEach_56 rfl ?_
            refine ciSN_3 (np := 61) dX2_tryEach_58 rfl lk_X2_70 (Nat.le_of_ble_eq_true rfl) (by omega) (Nat.le_refl _) (Nat.le_refl _) (c_mayComeOff _ _ _) (fun x_58 m_58 h_58 => ?_)
            obtain ⟨h58, q58⟩ := h_58
            have q58 := q58.symm
            subst q58
            rw [ho1, may_iff hm (by omega)] at h58
            refine wl_if_eq (np := 64) (tg := 83) dX2_tryEach_61 rfl rfl (fun c_61 => ?_) (fun c_61 => ?_)
            · refine skip (fun q => ?_)
              simp only [Bool.and_eq_true] at q
              rcases h58 with ⟨h1, -⟩ | ⟨-, h2⟩
              · rw [c_61] at h1; exact absurd h1 (by decide)
              · exact h2 q.2
            · rcases h58 with ⟨-, hmay⟩ | ⟨h1, -⟩
              · rw [if_pos (by simp only [htb, hmay, Bool.and_self]), List.flatMap_cons, foldB_app] at hfo
                have une : ∀ x, x ≠ pl + 9 → gI (uI (I1, m.2) (pl + 9) pre.length (nI c)) x = gI (I1, m.2) x := fun x hx => gI_uI_ne hx
                have hO2 : Onl (I1, m.2) (uI (I1, m.2) (pl + 9) pre.length (nI c)) pl (pl + 11) := ⟨rfl, fun x hx => une x (by omega)⟩
                have hSm2 : PlS sh (uI (I1, m.2) (pl + 9) pre.length (nI c)) pl q n off inc r t := hSm.fr hqp hO2 (congrFun (une pl (by omega)) 4)
                have hord2 : ∀ i, i < pre.length → gI (uI (I1, m.2) (pl + 9) pre.length (nI c)) (pl + 9) i = gI (I1, m.2) (pl + 9) i := fun i hi => gI_uI_nb (by omega)
                have hB2 : RepBest (uI (I1, m.2) (pl + 9) pre.length (nI c)) pl B' := by
                  obtain ⟨b1, b2, b3, b4⟩ := hBm
                  exact ⟨(congrFun (une pl (by omega)) 5).trans b1, b2, (congrFun (une pl (by omega)) 6).trans b3, fun h => ⟨(b4 h).1, fun i o ho => (congrFun (une _ (by omega)) i).trans ((b4 h).2 i o ho)⟩⟩
                refine ld_a0 (np := 65) dX2_tryEach_64 rfl ?_
                refine wl_getr (np := 68) dX2_tryEach_65 rfl fl_X2_16 rfl (by assumption) (by assumption) ?_
                refine ld_i1 (np := 69) dX2_tryEach_68 rfl ?_
                refine ld_i6 (np := 71) dX2_tryEach_69 rfl ?_
                refine wl_iastore (np := 72) dX2_tryEach_71 rfl (inA_n p3 (by omega) (by decide)) ?_
                rw [nI_clamp (by omega)]
                refine ld_a0 (np := 73) dX2_tryEach_72 rfl ?_
                refine ld_i1 (np := 74) dX2_tryEach_73 rfl ?_
                refine ld_i2 (np := 75) dX2_tryEach_74 rfl ?_
                refine ld_i3 (np := 76) dX2_tryEach_75 rfl ?_
                refine ld_i4 (np := 78) dX2_tryEach_76 rfl ?_
                refine ld_i5 (np := 80) dX2_tryEach_78 rfl ?_
                refine cvV_5 (np := 83) dX2_tryEach_80 rfl lk_X2_74 (by assumption) (Nat.le_of_ble_eq_true rfl) (by omega) (Nat.le_refl _) (Nat.le_refl _) (c_payNext ihk hqp hn6 hD (c := c) (by omega) hSm2 hm hbits hcnt (by omega) hday hp hA (fun i o ho => (hord2 i (List.getElem?_eq_some_iff.mp ho).1).trans ((hor i (List.getElem?_eq_some_iff.mp ho).1).trans (hord i o ho))) (gI_uI_self _ _ _ _) htb (by omega) (fun e he => (congrFun (une _ (by omega)) e).trans ((congrFun (hje _ (Nat.le_refl _)) e).trans (ham e he))) hB2) (fun m_80 h_80 => ?_)
                obtain ⟨e1, e2, e3, e4, e5⟩ := h_80
                refine inc_6 (np := 86) (v := _ + 1) dX2_tryEach_83 rfl rfl (by decide) rfl ?_
                refine wl_goto (tg := 30) dX2_tryEach_86 rfl ?_
                rw [← nI_succ]
                refine ih (c + 1) _ _ (by omega) (by omega) ⟨hO.tr (hO2.tr e1), (e2.trans (congrFun (une pl (by omega)) 4)).trans ho4, e3, fun i hi => (e4 i (by omega)).trans ((hord2 i hi).trans (hor i hi)), fun j hj => (e5 j hj).trans ((une _ (by omega)).trans (hje j hj))⟩ hfo
              · exact absurd h1 c_61
    refine CV.mk (L := [.ref pl, .int (nI pre.length), .int (nI mask), .int (nI day), .int p, .int pd, .float 0]) (by decide) (Nat.le_of_ble_eq_true rfl) rfl ?_
    refine ld_i2 (np := 1) dX2_tryEach_0 rfl ?_
    refine wl_if_ne (np := 4) (tg := 13) dX2_tryEach_1 rfl rfl (fun c_1 => ?_) (fun c_1 => ?_)
    · refine ld_i1 (np := 14) dX2_tryEach_13 rfl ?_
      refine wl_bipush (np := 16) (v := 6) dX2_tryEach_14 rfl (by decide) ?_
      refine wl_icmp_ge (np := 19) (tg := 26) dX2_tryEach_16 rfl rfl (fun c_16 => ?_) (fun c_16 => ?_)
      · rw [show (6 : Int32) = nI 6 from rfl, nI_le_iff (by decide) (by omega)] at c_16
        omega
      · refine ld_a0 (np := 20) dX2_tryEach_19 rfl ?_
        refine wl_getr (np := 23) dX2_tryEach_20 rfl fl_X2_23 rfl (by assumption) (by assumption) ?_
        refine wl_ifnonnull (tg := 27) dX2_tryEach_23 rfl ?_
        refine wl_iconst (np := 28) (v := 0) dX2_tryEach_27 rfl (rfl) ?_
        refine st_i6 (np := 30) dX2_tryEach_28 rfl (by decide) rfl ?_
        exact key (n + 1) 0 m B (by omega) (by omega) ⟨Onl.rf, rfl, hB, fun _ _ => rfl, fun _ _ => rfl⟩ hTG
    · exact absurd c_1 (nI_ne0 (by omega) (by omega))
end PLAN3
