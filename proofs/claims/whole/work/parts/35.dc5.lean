theorem nI_subI {a b : Nat} (h : b ≤ a) : nI a - nI b = nI (a - b) := by
  have e := nI_add (a - b) b
  rw [show a - b + b = a by omega] at e
  rw [← e, Int32.add_sub_cancel]
section DC5
variable {sh : List Shp} {me : Mem} {d : Nat} {S : St}
set_option maxHeartbeats 4000000 in
set_option maxRecDepth 100000 in
theorem c_dc_image (hF : FixC sh me) (hR : RepC me S) (hd : 5 ≤ d) : CI d mX6_image sh [.ref 0] me (fun x m => x = (sp_image S).1 ∧ GoodC sh me m (sp_image S).2) := by
  have hFs := hF
  obtain ⟨z0, ⟨g0, g1, g2, g3, g4, g5, g6, g7⟩, ⟨w1, w2, w3, pp1, l1, b1, t1⟩, zs, zss⟩ := hF
  have hw1 := w1
  obtain ⟨s0, s1, s2, s3, s4, r0, r1, r2, r3, hP⟩ := w1
  have hn5 := hR.1.1.1
  have hn := hR.1.2.1
  refine CI.mk (L := [.ref 0]) (by decide) (Nat.le_of_ble_eq_true rfl) rfl ?_
  have w20 := w2.1
  refine ld_a0 (np := 1) dX6_image_0 rfl ?_
  refine wl_getr (np := 4) dX6_image_1 rfl fl_X6_16 rfl (by assumption) (by assumption) ?_
  refine ld_a0 (np := 5) dX6_image_4 rfl ?_
  refine wl_getr (np := 8) dX6_image_5 rfl fl_X6_10 rfl (by assumption) (by assumption) ?_
  refine cvV_1 (np := 11) dX6_image_8 rfl lk_X6_259 (by assumption) (Nat.le_of_ble_eq_true rfl) (by omega) (Nat.le_refl _) (Nat.le_refl _) (c_W_becomeLike w2 hw1 hR.1 (by omega) (by omega)) (fun m_8 h_8 => ?_)
  obtain ⟨h1, h2⟩ := h_8
  obtain ⟨I1, R1⟩ := m_8
  obtain rfl : R1 = me.2 := h2.1
  refine ld_a0 (np := 12) dX6_image_11 rfl ?_
  refine wl_iconst (np := 13) (v := 1) dX6_image_12 rfl (rfl) ?_
  refine wl_putz (np := 16) dX6_image_13 rfl fl_X6_57 nf_6_8 rfl (by decide) (by assumption) ?_
  refine wl_iconst (np := 17) (v := 1) dX6_image_16 rfl (rfl) ?_
  refine wi_ret dX6_image_17 rfl (rfl) (Nat.le_refl _) (Nat.le_refl _) ?_
  refine ⟨rfl, ?_⟩
  obtain ⟨y1, y2, ⟨y3, y4, y5⟩, y6⟩ := hR
  have hn0 : ∀ a, a ≠ 0 → (uI (I1, me.2) 0 8 1).1 a = I1 a := fun a ha => gI_uI_ne ha
  have hn1 : ∀ a, a ≠ 0 → ¬ (36 ≤ a ∧ a < 71) → (uI (I1, me.2) 0 8 1).1 a = me.1 a := fun a h0 ha => (hn0 a h0).trans (h2.2 a (by omega))
  refine ⟨⟨y1.fr (fun a ha hb => hn1 a (by omega) (by omega)), ⟨gI_uI_self _ _ _ _, h1.fr (fun a ha hb => hn0 a (by omega))⟩, ⟨(congrFun (hn1 125 (by omega) (by omega)) 1).trans y3, y4, fun i hi => (congrFun (hn1 126 (by omega) (by omega)) i).trans (y5 i hi)⟩, fun k hk => (y6 k hk).fr (fun a ha hb => hn1 a (by omega) (by omega))⟩, hFs.of (RfK.of rfl), RfK.of rfl, fun a ha => hn1 a (by omega) (by omega)⟩
set_option maxHeartbeats 4000000 in
set_option maxRecDepth 100000 in
theorem c_dc_restore (hF : FixC sh me) (hR : RepC me S) (hd : 5 ≤ d) : CI d mX6_restore sh [.ref 0] me (fun x m => x = (sp_restore S).1 ∧ GoodC sh me m (sp_restore S).2) := by
  have hFs := hF
  obtain ⟨z0, ⟨g0, g1, g2, g3, g4, g5, g6, g7⟩, ⟨w1, w2, w3, pp1, l1, b1, t1⟩, zs, zss⟩ := hF
  have hw1 := w1
  obtain ⟨s0, s1, s2, s3, s4, r0, r1, r2, r3, hP⟩ := w1
  have hn5 := hR.1.1.1
  have hn := hR.1.2.1
  have hk := hR.2.1
  refine CI.mk (L := [.ref 0]) (by decide) (Nat.le_of_ble_eq_true rfl) rfl ?_
  refine ld_a0 (np := 1) dX6_restore_0 rfl ?_
  refine wl_geti (np := 4) dX6_restore_1 rfl fl_X6_57 (by decide) (by assumption) ?_
  refine wl_if_ne (np := 7) (tg := 10) dX6_restore_4 rfl rfl (fun c_4 => ?_) (fun c_4 => ?_)
  · cases hV : S.2.1 with
    | none =>
      rw [hV] at hk
      exact absurd hk c_4
    | some V =>
      rw [hV] at hk
      refine ld_a0 (np := 11) dX6_restore_10 rfl ?_
      refine wl_getr (np := 14) dX6_restore_11 rfl fl_X6_10 rfl (by assumption) (by assumption) ?_
      refine ld_a0 (np := 15) dX6_restore_14 rfl ?_
      refine wl_getr (np := 18) dX6_restore_15 rfl fl_X6_16 rfl (by assumption) (by assumption) ?_
      refine cvV_1 (np := 21) dX6_restore_18 rfl lk_X6_259 (by assumption) (Nat.le_of_ble_eq_true rfl) (by omega) (Nat.le_refl _) (Nat.le_refl _) (c_W_becomeLike hw1 w2 hk.2 (by omega) (by omega)) (fun m_18 h_18 => ?_)
      obtain ⟨h1, h2⟩ := h_18
      obtain ⟨I1, R1⟩ := m_18
      obtain rfl : R1 = me.2 := h2.1
      refine wl_iconst (np := 22) (v := 1) dX6_restore_21 rfl (rfl) ?_
      refine wi_ret dX6_restore_22 rfl (rfl) (Nat.le_refl _) (Nat.le_refl _) ?_
      unfold sp_restore
      rw [hV]
      exact ⟨rfl, GoodC.w hFs hR (RfK.of rfl) (fun a ha hb => h2.2 a (by omega)) h1⟩
  · cases hV : S.2.1 with
    | none =>
      refine wl_bipush (np := 9) (v := -4) dX6_restore_7 rfl (by decide) ?_
      refine wi_ret dX6_restore_9 rfl (rfl) (Nat.le_refl _) (Nat.le_refl _) ?_
      unfold sp_restore
      rw [hV]
      exact ⟨rfl, GoodC.same hFs hR⟩
    | some V =>
      rw [hV] at hk
      rw [hk.1] at c_4
      exact absurd c_4 (by decide)
set_option maxHeartbeats 4000000 in
set_option maxRecDepth 100000 in
theorem c_dc_ware (a t : Int32) (hF : FixC sh me) (hR : RepC me S) (hd : 2 ≤ d) : CI d mX6_ware sh [.ref 0, .int a, .int t] me (fun x m => x = (sp_ware S a t).1 ∧ GoodC sh me m (sp_ware S a t).2) := by
  have hFs := hF
  obtain ⟨z0, ⟨g0, g1, g2, g3, g4, g5, g6, g7⟩, ⟨w1, w2, w3, pp1, l1, b1, t1⟩, zs, zss⟩ := hF
  have hw1 := w1
  obtain ⟨s0, s1, s2, s3, s4, r0, r1, r2, r3, hP⟩ := w1
  have hn5 := hR.1.1.1
  have hn := hR.1.2.1
  have hwn := hR.1.2.2.2.2.2.2.2.2.1
  have hw8 := hR.1.2.2.2.2.2.2.2.2.2.1
  refine CI.mk (L := [.ref 0, .int a, .int t]) (by decide) (Nat.le_of_ble_eq_true rfl) rfl ?_
  have bad : ¬ (inR a 1 9999 ∧ inR t 1 9) → ∀ L4, Wa mX6_ware (0, fun _ => 0) d 0 0 sh.length (PI sh (fun x m => x = (sp_ware S a t).1 ∧ GoodC sh me m (sp_ware S a t).2)) 21 L4 [] sh me 0 0 := by
    intro hb L4
    unfold sp_ware
    rw [cif_f hb]
    refine wl_iconst (np := 22) (v := -1) dX6_ware_21 rfl (rfl) ?_
    refine wi_ret dX6_ware_22 rfl (rfl) (Nat.le_refl _) (Nat.le_refl _) ?_
    exact ⟨rfl, GoodC.same hFs hR⟩
  refine ld_i1 (np := 1) dX6_ware_0 rfl ?_
  refine wl_iconst (np := 2) (v := 1) dX6_ware_1 rfl (rfl) ?_
  refine wl_sipush (np := 5) (v := 9999) dX6_ware_2 rfl (by decide) ?_
  refine ciS_3 (np := 8) dX6_ware_5 rfl lk_X6_61 (Nat.le_of_ble_eq_true rfl) (by omega) (Nat.le_refl _) (Nat.le_refl _) (c_isWithin _ _ _) (fun x_5 m_5 h_5 => ?_)
  obtain ⟨rfl, q_5⟩ := h_5
  have q_5 := q_5.symm
  subst q_5
  refine wl_if_eq (np := 11) (tg := 21) dX6_ware_8 rfl rfl (fun c_8 => ?_) (fun c_8 => ?_)
  · exact bad (fun h => if0 c_8 h.1) _
  · refine ld_i2 (np := 12) dX6_ware_11 rfl ?_
    refine wl_iconst (np := 13) (v := 1) dX6_ware_12 rfl (rfl) ?_
    refine wl_bipush (np := 15) (v := 9) dX6_ware_13 rfl (by decide) ?_
    refine ciS_3 (np := 18) dX6_ware_15 rfl lk_X6_61 (Nat.le_of_ble_eq_true rfl) (by omega) (Nat.le_refl _) (Nat.le_refl _) (c_isWithin _ _ _) (fun x_15 m_15 h_15 => ?_)
    obtain ⟨rfl, q_15⟩ := h_15
    have q_15 := q_15.symm
    subst q_15
    refine wl_if_ne (np := 21) (tg := 23) dX6_ware_18 rfl rfl (fun c_18 => ?_) (fun c_18 => ?_)
    · have hgood : inR a 1 9999 ∧ inR t 1 9 := ⟨if1 c_8, if1 c_18⟩
      unfold sp_ware
      rw [cif_t hgood]
      refine ld_a0 (np := 24) dX6_ware_23 rfl ?_
      refine wl_getr (np := 27) dX6_ware_24 rfl fl_X6_10 rfl (by assumption) (by assumption) ?_
      refine wl_geti (np := 30) dX6_ware_27 rfl fl_X6_173 (by decide) (by assumption) ?_
      refine wl_bipush (np := 32) (v := 8) dX6_ware_30 rfl (by decide) ?_
      refine wl_icmp_lt (np := 35) (tg := 38) dX6_ware_32 rfl rfl (fun c_32 => ?_) (fun c_32 => ?_)
      · rw [hwn, show (8 : Int32) = nI 8 from rfl, nI_ltI (by omega) (by decide)] at c_32
        rw [if_neg (by omega)]
        have e1 : ∀ v, gI (uI me 4 (gI me 1 5).toNatClampNeg v) 1 5 = gI me 1 5 := fun v => congrFun (gI_uI_ne (by omega)) 5
        refine ld_a0 (np := 39) dX6_ware_38 rfl ?_
        refine wl_getr (np := 42) dX6_ware_39 rfl fl_X6_10 rfl (by assumption) (by assumption) ?_
        refine wl_getr (np := 45) dX6_ware_42 rfl fl_X6_246 rfl (by assumption) (by assumption) ?_
        refine ld_a0 (np := 46) dX6_ware_45 rfl ?_
        refine wl_getr (np := 49) dX6_ware_46 rfl fl_X6_10 rfl (by assumption) (by assumption) ?_
        refine wl_geti (np := 52) dX6_ware_49 rfl fl_X6_173 (by decide) (by assumption) ?_
        refine ld_i1 (np := 53) dX6_ware_52 rfl ?_
        refine wl_iastore (np := 54) dX6_ware_53 rfl (by rw [hwn]; exact inA_n s3 (by omega) (by decide)) ?_
        refine ld_a0 (np := 55) dX6_ware_54 rfl ?_
        refine wl_getr (np := 58) dX6_ware_55 rfl fl_X6_10 rfl (by assumption) (by assumption) ?_
        refine wl_getr (np := 61) dX6_ware_58 rfl fl_X6_249 rfl (by assumption) (by assumption) ?_
        refine ld_a0 (np := 62) dX6_ware_61 rfl ?_
        refine wl_getr (np := 65) dX6_ware_62 rfl fl_X6_10 rfl (by assumption) (by assumption) ?_
        refine wl_geti (np := 68) dX6_ware_65 rfl fl_X6_173 (by decide) (by assumption) ?_
        refine ld_i2 (np := 69) dX6_ware_68 rfl ?_
        refine wl_iastore (np := 70) dX6_ware_69 rfl (by rw [e1, hwn]; exact inA_n s4 (by omega) (by decide)) ?_
        refine ld_a0 (np := 71) dX6_ware_70 rfl ?_
        refine wl_getr (np := 74) dX6_ware_71 rfl fl_X6_10 rfl (by assumption) (by assumption) ?_
        refine wl_dup (np := 75) dX6_ware_74 rfl rfl ?_
        refine wl_geti (np := 78) dX6_ware_75 rfl fl_X6_173 (by decide) (by assumption) ?_
        refine wl_iconst (np := 79) (v := 1) dX6_ware_78 rfl (rfl) ?_
        refine wl_iadd (np := 80) dX6_ware_79 rfl ?_
        refine wl_puti (np := 83) dX6_ware_80 rfl fl_X6_173 nf_5_5 rfl (by assumption) ?_
        refine ld_a0 (np := 84) dX6_ware_83 rfl ?_
        refine wl_getr (np := 87) dX6_ware_84 rfl fl_X6_10 rfl (by assumption) (by assumption) ?_
        refine wl_geti (np := 90) dX6_ware_87 rfl fl_X6_173 (by decide) (by assumption) ?_
        refine wl_iconst (np := 91) (v := 1) dX6_ware_90 rfl (rfl) ?_
        refine wl_isub (np := 92) dX6_ware_91 rfl ?_
        refine wi_ret dX6_ware_92 rfl (rfl) (Nat.le_refl _) (Nat.le_refl _) ?_
        rw [gI_uI_self]
        rw [show gI (uI (uI me (1 + 3) (gI me 1 5).toNatClampNeg a) (1 + 4) (gI (uI me (1 + 3) (gI me 1 5).toNatClampNeg a) 1 5).toNatClampNeg t) 1 5 = gI me 1 5 from (congrFun (gI_uI_ne (by omega)) 5).trans (e1 _), show gI (uI me (1 + 3) (gI me 1 5).toNatClampNeg a) 1 5 = gI me 1 5 from e1 _, hwn, nI_clamp (by omega), ← nI_succ, nI_pred]
        refine ⟨rfl, ?_⟩
        have hO : Onl me (uI (uI (uI me (1 + 3) S.1.2.2.2.2.length a) (1 + 4) S.1.2.2.2.2.length t) 1 5 (nI (S.1.2.2.2.2.length + 1))) 1 6 := ⟨rfl, fun x hx => (gI_uI_ne (by omega)).trans ((gI_uI_ne (by omega)).trans (gI_uI_ne (by omega)))⟩
        refine GoodC.w hFs hR (RfK.of hO.1) (fun x h1 h2 => hO.2 x (by omega)) ?_
        obtain ⟨y1, y2, y3, y4, y5, y6, y7, y8, y9, y10, y11⟩ := hR.1
        have ne : ∀ y, y ≠ 5 → gI (uI (uI (uI me (1 + 3) S.1.2.2.2.2.length a) (1 + 4) S.1.2.2.2.2.length t) 1 5 (nI (S.1.2.2.2.2.length + 1))) 1 y = gI me 1 y := fun y hy => (gI_uI_nb hy).trans ((congrFun (gI_uI_ne (by omega)) y).trans (congrFun (gI_uI_ne (by omega)) y))
        refine ⟨⟨y1.1, fun p P hp => (y1.2 p P hp).fr (fun x ha hb => hO.2 x (by omega))⟩, (ne _ (by omega)).trans y2, fun i hi => ?_, (ne _ (by omega)).trans y4, (ne _ (by omega)).trans y5, (ne _ (by omega)).trans y6, (ne _ (by omega)).trans y7, y8, ?_, ?_, fun k b hk => ?_⟩
        · exact (congrFun (gI_uI_ne (by omega)) i).trans ((congrFun (gI_uI_ne (by omega)) i).trans ((congrFun (gI_uI_ne (by omega)) i).trans (y3 i hi)))
        · rw [gI_uI_self]; simp
        · simp; omega
        · dsimp only at hk
          have e3 : gI (uI (uI (uI me (1 + 3) S.1.2.2.2.2.length a) (1 + 4) S.1.2.2.2.2.length t) 1 5 (nI (S.1.2.2.2.2.length + 1))) (1 + 3) k = gI (uI me (1 + 3) S.1.2.2.2.2.length a) (1 + 3) k := (congrFun (gI_uI_ne (by omega)) k).trans (congrFun (gI_uI_ne (by omega)) k)
          have e4 : gI (uI (uI (uI me (1 + 3) S.1.2.2.2.2.length a) (1 + 4) S.1.2.2.2.2.length t) 1 5 (nI (S.1.2.2.2.2.length + 1))) (1 + 4) k = gI (uI (uI me (1 + 3) S.1.2.2.2.2.length a) (1 + 4) S.1.2.2.2.2.length t) (1 + 4) k := congrFun (gI_uI_ne (by omega)) k
          rw [e3, e4]
          by_cases hlt : k < S.1.2.2.2.2.length
          · rw [List.getElem?_append_left hlt] at hk
            rw [gI_uI_nb (by omega), gI_uI_nb (by omega)]
            exact ⟨(y11 k b hk).1, (congrFun (gI_uI_ne (by omega)) k).trans (y11 k b hk).2⟩
          · rw [List.getElem?_append_right (by omega)] at hk
            have hz : k - S.1.2.2.2.2.length < 1 := (List.getElem?_eq_some_iff.mp hk).1
            have hke : k = S.1.2.2.2.2.length := by omega
            subst hke
            rw [Nat.sub_self] at hk
            cases hk
            exact ⟨gI_uI_self _ _ _ _, gI_uI_self _ _ _ _⟩
      · rw [hwn, show (8 : Int32) = nI 8 from rfl, nI_ltI (by omega) (by decide)] at c_32
        rw [if_pos (by omega)]
        refine wl_bipush (np := 37) (v := -3) dX6_ware_35 rfl (by decide) ?_
        refine wi_ret dX6_ware_37 rfl (rfl) (Nat.le_refl _) (Nat.le_refl _) ?_
        exact ⟨rfl, GoodC.same hFs hR⟩
    · exact bad (fun h => if0 c_18 h.2) _
set_option maxHeartbeats 4000000 in
set_option maxRecDepth 100000 in
theorem c_dc_owed (l : Int32) (hF : FixC sh me) (hR : RepC me S) (hd : 2 ≤ d) : CI d mX6_owed sh [.ref 0, .int l] me (fun x m => x = (sp_owed S l).1 ∧ GoodC sh me m (sp_owed S l).2) := by
  have hFs := hF
  obtain ⟨z0, ⟨g0, g1, g2, g3, g4, g5, g6, g7⟩, ⟨w1, w2, w3, pp1, l1, b1, t1⟩, zs, zss⟩ := hF
  have hw1 := w1
  obtain ⟨s0, s1, s2, s3, s4, r0, r1, r2, r3, hP⟩ := w1
  have hn5 := hR.1.1.1
  have hn := hR.1.2.1
  refine CI.mk (L := [.ref 0, .int l, .float 0, .float 0]) (by decide) (Nat.le_of_ble_eq_true rfl) rfl ?_
  refine ld_i1 (np := 1) dX6_owed_0 rfl ?_
  refine ciS_1 (np := 4) dX6_owed_1 rfl lk_X6_127 (Nat.le_of_ble_eq_true rfl) (by omega) (Nat.le_refl _) (Nat.le_refl _) (c_isLender _ (by omega)) (fun x_1 m_1 h_1 => ?_)
  obtain ⟨rfl, q_1⟩ := h_1
  have q_1 := q_1.symm
  subst q_1
  refine wl_if_ne (np := 7) (tg := 9) dX6_owed_4 rfl rfl (fun c_4 => ?_) (fun c_4 => ?_)
  · unfold sp_owed
    rw [cif_t (if1 c_4)]
    have hsum : sumF (fun p => sumF (owedF me (1 + 5 + 6 * p) l) ((S.1.1[p]?).getD ((0, 0, 0, 0), [], fun _ => 0)).2.1.length) S.1.1.length = sumL (S.1.1.map (fun P => owedP P l)) := sumF_eq _ _ _ (fun p P hp => by
      rw [hp]
      exact sumF_eq _ _ _ (fun c co hc => by
        unfold owedF
        rw [((hR.1.1.2 p P hp).2.2.2.2.2.2.1 c co hc).1, ((hR.1.1.2 p P hp).2.2.2.2.2.2.1 c co hc).2.1]))
    have key : ∀ fuel i, S.1.1.length - i < fuel → i ≤ S.1.1.length → Wa mX6_owed (0, fun _ => 0) d 0 0 sh.length (PI sh (fun x m => x = minI (sumL (S.1.1.map (fun P => owedP P l))) 9999999 ∧ GoodC sh me m S)) 13 [.ref 0, .int l, .int (sumF (fun p => sumF (owedF me (1 + 5 + 6 * p) l) ((S.1.1[p]?).getD ((0, 0, 0, 0), [], fun _ => 0)).2.1.length) i), .int (nI i)] [] sh me 0 0 := by
      intro fuel
      induction fuel with
      | zero => intro i h; omega
      | succ fuel ih =>
        intro i hi hin
        refine ld_i3 (np := 14) dX6_owed_13 rfl ?_
        refine ld_a0 (np := 15) dX6_owed_14 rfl ?_
        refine wl_getr (np := 18) dX6_owed_15 rfl fl_X6_10 rfl (by assumption) (by assumption) ?_
        refine wl_geti (np := 21) dX6_owed_18 rfl fl_X6_65 (by decide) (by assumption) ?_
        refine wl_icmp_ge (np := 24) (tg := 46) dX6_owed_21 rfl rfl (fun c_21 => ?_) (fun c_21 => ?_)
        · refine ld_i2 (np := 47) dX6_owed_46 rfl ?_
          refine wl_ldc (np := 49) dX6_owed_47 rfl wk_X6_100 ?_
          refine wl_min (np := 52) dX6_owed_49 rfl lk_X6_101 (Nat.le_of_ble_eq_true rfl) (by omega) (Nat.le_refl _) (Nat.le_refl _) ?_
          refine wi_ret dX6_owed_52 rfl (rfl) (Nat.le_refl _) (Nat.le_refl _) ?_
          rw [hn, nI_le_iff (by omega) (by omega)] at c_21
          rw [show i = S.1.1.length by omega, hsum]
          exact ⟨rfl, GoodC.same hFs hR⟩
        · rw [hn, nI_le_iff (by omega) (by omega)] at c_21
          obtain ⟨g1, g2⟩ := hP i (by omega)
          have sP := g2.1
          obtain ⟨P, hPi⟩ : ∃ P, S.1.1[i]? = some P := ⟨_, List.getElem?_eq_getElem (by omega)⟩
          have hrP := hR.1.1.2 i P hPi
          refine ld_i2 (np := 25) dX6_owed_24 rfl ?_
          refine ld_a0 (np := 26) dX6_owed_25 rfl ?_
          refine wl_getr (np := 29) dX6_owed_26 rfl fl_X6_10 rfl (by assumption) (by first | assumption | (rw [nI_clamp (by omega)]; assumption)) ?_
          refine wl_getr (np := 32) dX6_owed_29 rfl fl_X6_69 rfl (by assumption) (by first | assumption | (rw [nI_clamp (by omega)]; assumption)) ?_
          refine ld_i3 (np := 33) dX6_owed_32 rfl ?_
          refine wl_aaload (np := 34) dX6_owed_33 rfl (by assumption) (by decide) (vp_in_nI (by omega) (by decide)) (by first | assumption | (rw [nI_clamp (by omega)]; assumption)) ?_
          refine ld_i1 (np := 35) dX6_owed_34 rfl ?_
          refine ciV_1 (np := 38) dX6_owed_35 rfl lk_X6_220 (by assumption) (Nat.le_of_ble_eq_true rfl) (by omega) (Nat.le_refl _) (Nat.le_refl _) (c_owedTo l g2 hrP.2.2.2.2.1 hrP.2.2.2.2.2.1) (fun x_35 m_35 h_35 => ?_)
          obtain ⟨rfl, q_35⟩ := h_35
          have q_35 := q_35.symm
          subst q_35
          refine wl_iadd (np := 39) dX6_owed_38 rfl ?_
          refine st_i2 (np := 40) dX6_owed_39 rfl (by decide) rfl ?_
          refine inc_3 (np := 43) (v := _ + 1) dX6_owed_40 rfl rfl (by decide) rfl ?_
          refine wl_goto (tg := 13) dX6_owed_43 rfl ?_
          rw [← nI_succ]
          have e : sumF (fun p => sumF (owedF me (1 + 5 + 6 * p) l) ((S.1.1[p]?).getD ((0, 0, 0, 0), [], fun _ => 0)).2.1.length) (i + 1) = sumF (fun p => sumF (owedF me (1 + 5 + 6 * p) l) ((S.1.1[p]?).getD ((0, 0, 0, 0), [], fun _ => 0)).2.1.length) i + sumF (owedF me (1 + 5 + 6 * i) l) P.2.1.length := by
            show _ + sumF _ ((S.1.1[i]?).getD ((0, 0, 0, 0), [], fun _ => 0)).2.1.length = _
            rw [hPi]; rfl
          rw [← e]
          exact ih (i + 1) (by omega) (by omega)
    refine wl_iconst (np := 10) (v := 0) dX6_owed_9 rfl (rfl) ?_
    refine st_i2 (np := 11) dX6_owed_10 rfl (by decide) rfl ?_
    refine wl_iconst (np := 12) (v := 0) dX6_owed_11 rfl (rfl) ?_
    refine st_i3 (np := 13) dX6_owed_12 rfl (by decide) rfl ?_
    exact key (S.1.1.length + 1) 0 (by omega) (by omega)
  · unfold sp_owed
    rw [cif_f (if0 c_4)]
    refine wl_iconst (np := 8) (v := -1) dX6_owed_7 rfl (rfl) ?_
    refine wi_ret dX6_owed_8 rfl (rfl) (Nat.le_refl _) (Nat.le_refl _) ?_
    exact ⟨rfl, GoodC.same hFs hR⟩
set_option maxHeartbeats 4000000 in
set_option maxRecDepth 100000 in
theorem c_dc_rings (i : Int32) (hF : FixC sh me) (hR : RepC me S) (hlen : lenW S.1) (hd : 4 ≤ d) : CI d mX6_rings sh [.ref 0, .int i] me (fun x m => x = (sp_rings S i).1 ∧ GoodC sh me m (sp_rings S i).2) := by
  have hFs := hF
  obtain ⟨z0, ⟨g0, g1, g2, g3, g4, g5, g6, g7⟩, ⟨w1, w2, w3, pp1, l1, b1, t1⟩, zs, zss⟩ := hF
  have hw1 := w1
  obtain ⟨s0, s1, s2, s3, s4, r0, r1, r2, r3, hP⟩ := w1
  have hn5 := hR.1.1.1
  have hn := hR.1.2.1
  have bs0 := b1.1
  have bs1 := b1.2.1
  have bs2 := b1.2.2
  refine CI.mk (L := [.ref 0, .int i]) (by decide) (Nat.le_of_ble_eq_true rfl) rfl ?_
  refine ld_i1 (np := 1) dX6_rings_0 rfl ?_
  refine wl_iconst (np := 2) (v := -1) dX6_rings_1 rfl (rfl) ?_
  refine wl_iconst (np := 3) (v := 2) dX6_rings_2 rfl (rfl) ?_
  refine ciS_3 (np := 6) dX6_rings_3 rfl lk_X6_61 (Nat.le_of_ble_eq_true rfl) (by omega) (Nat.le_refl _) (Nat.le_refl _) (c_isWithin _ _ _) (fun x_3 m_3 h_3 => ?_)
  obtain ⟨rfl, q_3⟩ := h_3
  have q_3 := q_3.symm
  subst q_3
  refine wl_if_ne (np := 9) (tg := 11) dX6_rings_6 rfl rfl (fun c_6 => ?_) (fun c_6 => ?_)
  · unfold sp_rings
    rw [cif_t (if1 c_6)]
    refine ld_a0 (np := 12) dX6_rings_11 rfl ?_
    refine wl_getr (np := 15) dX6_rings_12 rfl fl_X6_39 rfl (by assumption) (by assumption) ?_
    refine ld_a0 (np := 16) dX6_rings_15 rfl ?_
    refine wl_getr (np := 19) dX6_rings_16 rfl fl_X6_10 rfl (by assumption) (by assumption) ?_
    refine cvV_1 (np := 22) dX6_rings_19 rfl lk_X6_207 (by assumption) (Nat.le_of_ble_eq_true rfl) (by omega) (Nat.le_refl _) (Nat.le_refl _) (c_find b1 hw1 hR.1 hlen (by omega) (by omega)) (fun m_19 h_19 => ?_)
    obtain ⟨⟨h1, h2, h3⟩, hO⟩ := h_19
    obtain ⟨I1, R1⟩ := m_19
    obtain rfl : R1 = me.2 := hO.1
    have hg : GoodC sh me (I1, me.2) S := GoodC.w hFs hR (RfK.of rfl) (fun a ha hb => hO.2 a (by omega)) (hR.1.fr (fun a ha hb => hO.2 a (by omega)))
    unfold ringA
    refine ld_i1 (np := 23) dX6_rings_22 rfl ?_
    refine ld_a0 (np := 24) dX6_rings_23 rfl ?_
    refine wl_getr (np := 27) dX6_rings_24 rfl fl_X6_39 rfl (by assumption) (by assumption) ?_
    refine wl_geti (np := 30) dX6_rings_27 rfl fl_X6_211 (by decide) (by assumption) ?_
    refine wl_icmp_lt (np := 33) (tg := 36) dX6_rings_30 rfl rfl (fun c_30 => ?_) (fun c_30 => ?_)
    · rw [h2] at c_30
      rw [if_pos c_30]
      refine ld_i1 (np := 37) dX6_rings_36 rfl ?_
      refine wl_if_lt (np := 40) (tg := 50) dX6_rings_37 rfl rfl (fun c_37 => ?_) (fun c_37 => ?_)
      · rw [if_pos c_37]
        refine ld_a0 (np := 51) dX6_rings_50 rfl ?_
        refine wl_getr (np := 54) dX6_rings_51 rfl fl_X6_39 rfl (by assumption) (by assumption) ?_
        refine wl_geti (np := 57) dX6_rings_54 rfl fl_X6_211 (by decide) (by assumption) ?_
        refine wl_if_ne (np := 60) (tg := 65) dX6_rings_57 rfl rfl (fun c_57 => ?_) (fun c_57 => ?_)
        · rw [h2] at c_57
          rw [if_neg c_57]
          refine ld_a0 (np := 66) dX6_rings_65 rfl ?_
          refine wl_getr (np := 69) dX6_rings_66 rfl fl_X6_39 rfl (by assumption) (by assumption) ?_
          refine wl_geti (np := 72) dX6_rings_69 rfl fl_X6_217 (by decide) (by assumption) ?_
          refine wi_ret dX6_rings_72 rfl (rfl) (Nat.le_refl _) (Nat.le_refl _) ?_
          exact ⟨h1, hg⟩
        · rw [h2] at c_57
          rw [if_pos c_57]
          refine wl_bipush (np := 62) (v := -4) dX6_rings_60 rfl (by decide) ?_
          refine wl_goto (tg := 72) dX6_rings_62 rfl ?_
          refine wi_ret dX6_rings_72 rfl (rfl) (Nat.le_refl _) (Nat.le_refl _) ?_
          exact ⟨rfl, hg⟩
      · rw [if_neg c_37]
        obtain ⟨j, hj, rfl⟩ := nI_of2 (x := i) (M := 2) (n := 2) rfl c_37 (if1 c_6).2
        have hne : (bestB S.1.1).2.1 ≠ 0 := fun q => by rw [q] at c_30; exact absurd c_30 c_37
        obtain ⟨f0, f1, f2⟩ := h3 hne
        refine ld_a0 (np := 41) dX6_rings_40 rfl ?_
        refine wl_getr (np := 44) dX6_rings_41 rfl fl_X6_39 rfl (by assumption) (by assumption) ?_
        refine wl_getr (np := 47) dX6_rings_44 rfl fl_X6_214 rfl (by assumption) (by assumption) ?_
        refine ld_i1 (np := 48) dX6_rings_47 rfl ?_
        refine wl_iaload (np := 49) dX6_rings_48 rfl (inA_n bs1 (by omega) (by decide)) ?_
        refine wi_ret dX6_rings_49 rfl (rfl) (Nat.le_refl _) (Nat.le_refl _) ?_
        rw [nI_clamp (by omega)]
        refine ⟨?_, hg⟩
        dsimp only
        match j, hj with
        | 0, _ => rw [if_pos (show nI 0 = 0 from rfl)]; exact f0
        | 1, _ => rw [if_neg (show ¬ nI 1 = 0 by decide), if_pos (show nI 1 = 1 from rfl)]; exact f1
        | 2, _ => rw [if_neg (show ¬ nI 2 = 0 by decide), if_neg (show ¬ nI 2 = 1 by decide)]; exact f2
    · rw [h2] at c_30
      rw [if_neg c_30]
      refine wl_bipush (np := 35) (v := -4) dX6_rings_33 rfl (by decide) ?_
      refine wi_ret dX6_rings_35 rfl (rfl) (Nat.le_refl _) (Nat.le_refl _) ?_
      exact ⟨rfl, hg⟩
  · unfold sp_rings
    rw [cif_f (if0 c_6)]
    refine wl_iconst (np := 10) (v := -1) dX6_rings_9 rfl (rfl) ?_
    refine wi_ret dX6_rings_10 rfl (rfl) (Nat.le_refl _) (Nat.le_refl _) ?_
    exact ⟨rfl, GoodC.same hFs hR⟩
set_option maxHeartbeats 4000000 in
set_option maxRecDepth 100000 in
theorem c_dc_bears (p : Int32) (hF : FixC sh me) (hR : RepC me S) (hd : 3 ≤ d) : CI d mX6_bears sh [.ref 0, .int p] me (fun x m => x = (sp_bears S p).1 ∧ GoodC sh me m (sp_bears S p).2) := by
  have hFs := hF
  obtain ⟨z0, ⟨g0, g1, g2, g3, g4, g5, g6, g7⟩, ⟨w1, w2, w3, pp1, l1, b1, t1⟩, zs, zss⟩ := hF
  have hw1 := w1
  obtain ⟨s0, s1, s2, s3, s4, r0, r1, r2, r3, hP⟩ := w1
  have hn5 := hR.1.1.1
  have hn := hR.1.2.1
  have hdy := hR.1.2.2.2.2.2.2.1
  have hd9 := hR.1.2.2.2.2.2.2.2.1
  have hht := hR.1.2.2.1
  refine CI.mk (L := [.ref 0, .int p, .float 0, .float 0]) (by decide) (Nat.le_of_ble_eq_true rfl) rfl ?_
  refine ld_a0 (np := 1) dX6_bears_0 rfl ?_
  refine wl_getr (np := 4) dX6_bears_1 rfl fl_X6_10 rfl (by assumption) (by assumption) ?_
  refine ld_i1 (np := 5) dX6_bears_4 rfl ?_
  refine ciV_1 (np := 8) dX6_bears_5 rfl lk_X6_77 (by assumption) (Nat.le_of_ble_eq_true rfl) (by omega) (Nat.le_refl _) (Nat.le_refl _) (c_hasPerson p hw1 hR.1 (by omega)) (fun x_5 m_5 h_5 => ?_)
  obtain ⟨h5, q5⟩ := h_5
  have q5 := q5.symm
  subst q5
  refine wl_if_ne (np := 11) (tg := 13) dX6_bears_8 rfl rfl (fun c_8 => ?_) (fun c_8 => ?_)
  · have hpn := or1 h5 c_8
    obtain ⟨k, hk, rfl⟩ := or1 h5 c_8
    obtain ⟨P, hPk⟩ : ∃ P, S.1.1[k]? = some P := ⟨_, List.getElem?_eq_getElem hk⟩
    have hrP := hR.1.1.2 k P hPk
    obtain ⟨ga, gb⟩ := hP k (by omega)
    have gb0 := gb
    have sP := gb.1
    have hth : sumF (gI me (1 + 5 + 6 * k + 4)) P.2.1.length = thickOf P := sumF_eq _ _ _ (fun c co hc => (hrP.2.2.2.2.2.2.1 c co hc).2.2.2)
    unfold sp_bears
    rw [cif_t hpn, getP_nI hPk (by omega)]
    have key : ∀ fuel dd, dd + fuel = 360 → S.1.2.2.2.1 < dd → brF P S.1.2.1 S.1.2.2.2.1 fuel dd = brF P S.1.2.1 S.1.2.2.2.1 (359 - S.1.2.2.2.1) (S.1.2.2.2.1 + 1) → Wa mX6_bears (0, fun _ => 0) d 0 0 sh.length (PI sh (fun x m => x = brF P S.1.2.1 S.1.2.2.2.1 (359 - S.1.2.2.2.1) (S.1.2.2.2.1 + 1) ∧ GoodC sh me m S)) 33 [.ref 0, .int (nI k), .ref (1 + 5 + 6 * k), .int (nI dd)] [] sh me 0 0 := by
      intro fuel
      induction fuel with
      | zero =>
        intro dd h1 h2 h3
        refine ld_i3 (np := 34) dX6_bears_33 rfl ?_
        refine wl_sipush (np := 37) (v := 359) dX6_bears_34 rfl (by decide) ?_
        refine wl_icmp_gt (np := 40) (tg := 71) dX6_bears_37 rfl rfl (fun c_37 => ?_) (fun c_37 => ?_)
        · refine wl_bipush (np := 73) (v := -4) dX6_bears_71 rfl (by decide) ?_
          refine wi_ret dX6_bears_73 rfl (rfl) (Nat.le_refl _) (Nat.le_refl _) ?_
          exact ⟨h3, GoodC.same hFs hR⟩
        · rw [show (359 : Int32) = nI 359 from rfl, nI_ltI (by decide) (by omega)] at c_37
          omega
      | succ fuel ih =>
        intro dd h1 h2 h3
        refine ld_i3 (np := 34) dX6_bears_33 rfl ?_
        refine wl_sipush (np := 37) (v := 359) dX6_bears_34 rfl (by decide) ?_
        refine wl_icmp_gt (np := 40) (tg := 71) dX6_bears_37 rfl rfl (fun c_37 => ?_) (fun c_37 => ?_)
        · rw [show (359 : Int32) = nI 359 from rfl, nI_ltI (by decide) (by omega)] at c_37
          omega
        · refine ld_a2 (np := 41) dX6_bears_40 rfl ?_
          refine ld_a0 (np := 42) dX6_bears_41 rfl ?_
          refine wl_getr (np := 45) dX6_bears_42 rfl fl_X6_10 rfl (by assumption) (by assumption) ?_
          refine ld_i3 (np := 46) dX6_bears_45 rfl ?_
          refine ciV_1 (np := 49) dX6_bears_46 rfl lk_X6_240 (by assumption) (Nat.le_of_ble_eq_true rfl) (by omega) (Nat.le_refl _) (Nat.le_refl _) (c_heatOn hw1 (by omega) (by omega)) (fun x_46 m_46 h_46 => ?_)
          obtain ⟨rfl, q_46⟩ := h_46
          have q_46 := q_46.symm
          subst q_46
          refine ciV_1 (np := 52) dX6_bears_49 rfl lk_X6_243 (by assumption) (Nat.le_of_ble_eq_true rfl) (by omega) (Nat.le_refl _) (Nat.le_refl _) (c_isOver _ gb0 hrP.2.2.2.2.1 hrP.2.2.2.2.2.1 (by omega)) (fun x_49 m_49 h_49 => ?_)
          obtain ⟨h49, q49⟩ := h_49
          have q49 := q49.symm
          subst q49
          unfold hotP at h49
          rw [hth, hrP.2.2.1, hht _ (by omega)] at h49
          have hst : brF P S.1.2.1 S.1.2.2.2.1 (fuel + 1) dd = if maxI (P.1.2.2.1 - S.1.2.1 (dd / 30)) 0 < thickOf P then nI (dd - S.1.2.2.2.1) else brF P S.1.2.1 S.1.2.2.2.1 fuel (dd + 1) := rfl
          rw [hst] at h3
          refine wl_if_eq (np := 55) (tg := 65) dX6_bears_52 rfl rfl (fun c_52 => ?_) (fun c_52 => ?_)
          · rw [if_neg (or0 h49 c_52)] at h3
            refine inc_3 (np := 68) (v := _ + 1) dX6_bears_65 rfl rfl (by decide) rfl ?_
            refine wl_goto (tg := 33) dX6_bears_68 rfl ?_
            rw [← nI_succ]
            exact ih (dd + 1) (by omega) (by omega) h3
          · rw [if_pos (or1 h49 c_52)] at h3
            refine ld_i3 (np := 56) dX6_bears_55 rfl ?_
            refine ld_a0 (np := 57) dX6_bears_56 rfl ?_
            refine wl_getr (np := 60) dX6_bears_57 rfl fl_X6_10 rfl (by assumption) (by assumption) ?_
            refine wl_geti (np := 63) dX6_bears_60 rfl fl_X6_161 (by decide) (by assumption) ?_
            refine wl_isub (np := 64) dX6_bears_63 rfl ?_
            refine wi_ret dX6_bears_64 rfl (rfl) (Nat.le_refl _) (Nat.le_refl _) ?_
            refine ⟨?_, GoodC.same hFs hR⟩
            rw [hdy, nI_subI (by omega)]
            exact h3
    refine ld_a0 (np := 14) dX6_bears_13 rfl ?_
    refine wl_getr (np := 17) dX6_bears_14 rfl fl_X6_10 rfl (by assumption) (by first | assumption | (rw [nI_clamp (by omega)]; assumption)) ?_
    refine wl_getr (np := 20) dX6_bears_17 rfl fl_X6_69 rfl (by assumption) (by first | assumption | (rw [nI_clamp (by omega)]; assumption)) ?_
    refine ld_i1 (np := 21) dX6_bears_20 rfl ?_
    refine wl_aaload (np := 22) dX6_bears_21 rfl (by assumption) (by decide) (vp_in_nI (by omega) (by decide)) (by first | assumption | (rw [nI_clamp (by omega)]; assumption)) ?_
    refine st_a2 (np := 23) dX6_bears_22 rfl (by decide) rfl ?_
    refine ld_a0 (np := 24) dX6_bears_23 rfl ?_
    refine wl_getr (np := 27) dX6_bears_24 rfl fl_X6_10 rfl (by assumption) (by first | assumption | (rw [nI_clamp (by omega)]; assumption)) ?_
    refine wl_geti (np := 30) dX6_bears_27 rfl fl_X6_161 (by decide) (by assumption) ?_
    refine wl_iconst (np := 31) (v := 1) dX6_bears_30 rfl (rfl) ?_
    refine wl_iadd (np := 32) dX6_bears_31 rfl ?_
    refine st_i3 (np := 33) dX6_bears_32 rfl (by decide) rfl ?_
    rw [hdy, ← nI_succ]
    exact key (359 - S.1.2.2.2.1) (S.1.2.2.2.1 + 1) (by omega) (by omega) rfl
  · unfold sp_bears
    rw [cif_f (or0 h5 c_8)]
    refine wl_iconst (np := 12) (v := -1) dX6_bears_11 rfl (rfl) ?_
    refine wi_ret dX6_bears_12 rfl (rfl) (Nat.le_refl _) (Nat.le_refl _) ?_
    exact ⟨rfl, GoodC.same hFs hR⟩
end DC5
