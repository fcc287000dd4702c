section WORLD2
variable {sh : List Shp} {me : Mem} {d w : Nat} {W : Wld}
theorem mem_of_get {α : Type} {l : List α} {k : Nat} {x : α} (h : l[k]? = some x) : x ∈ l := List.mem_of_getElem? h
set_option maxHeartbeats 4000000 in
set_option maxRecDepth 100000 in
theorem c_W_passNight (hw : isW sh me w) (hr : RepW me w W) (hlen : lenW W) (hday : W.2.2.2.1 < 359) (hd : 3 ≤ d) : CV d mX5_passNight sh [.ref w] me (fun m => RepW m w (nightWd W) ∧ Onl me m w (w + 35)) := by
  have hws := hw
  obtain ⟨s0, s1, s2, s3, s4, r0, r1, r2, r3, hP⟩ := hw
  have hr0 := hr
  obtain ⟨⟨hn5, hps⟩, hn, hh, ho1, ho2, ho3, hdy, hdl, hwn, hw8, hwr⟩ := hr
  have key : ∀ fuel i (m : Mem), W.1.length - i < fuel → i ≤ W.1.length → m.2 = me.2 → (∀ a, ¬ (w ≤ a ∧ a < w + 35) → m.1 a = me.1 a) → (∀ b, b ≠ 6 → gI m w b = gI me w b) → gI m w 6 = nI (W.2.2.2.1 + 1) → (∀ a b, w < a → a < w + 5 → gI m a b = gI me a b) →
      (∀ p P, W.1[p]? = some P → RepP m (w + 5 + 6 * p) (if p < i then nightP P (W.2.1 ((W.2.2.2.1 + 1) / 30)) (nI (W.2.2.2.1 + 1)) else P)) →
      Wa mX5_passNight (0, fun _ => 0) d 0 0 sh.length (PV sh (fun m => RepW m w (nightWd W) ∧ Onl me m w (w + 35))) 12 [.ref w, .int (nI i)] [] sh m 0 0 := by
    intro fuel
    induction fuel with
    | zero => intro i m h; omega
    | succ fuel ih =>
      intro i m hi hin hm2 hout hwb hw6 hmid hpp
      obtain ⟨I1, R1⟩ := m
      obtain rfl : R1 = me.2 := hm2
      refine ld_i1 (np := 13) dX5_passNight_12 rfl ?_
      refine ld_a0 (np := 14) dX5_passNight_13 rfl ?_
      refine wl_geti (np := 17) dX5_passNight_14 rfl fl_X5_28 (by decide) (by assumption) ?_
      refine wl_icmp_ge (np := 20) (tg := 68) dX5_passNight_17 rfl rfl (fun c_17 => ?_) (fun c_17 => ?_)
      · rw [hwb 4 (by omega), hn, nI_le_iff (by omega) (by omega)] at c_17
        have hie : i = W.1.length := by omega
        refine wv_ret dX5_passNight_68 rfl (Nat.le_refl _) (Nat.le_refl _) ?_
        refine ⟨⟨⟨by simpa [nightWd] using hn5, fun p P' hp => ?_⟩, ?_, fun j hj => (hmid _ _ (by omega) (by omega)).trans (hh j hj), (hwb _ (by omega)).trans ho1, (hwb _ (by omega)).trans ho2, (hwb _ (by omega)).trans ho3, hw6, by simp only [nightWd]; omega, (hwb _ (by omega)).trans hwn, hw8, fun k a hk => ⟨(hmid _ _ (by omega) (by omega)).trans (hwr k a hk).1, (hmid _ _ (by omega) (by omega)).trans (hwr k a hk).2⟩⟩, rfl, hout⟩
        · simp only [nightWd, List.getElem?_map] at hp
          cases hq : W.1[p]? with
          | none => rw [hq] at hp; cases hp
          | some P =>
            rw [hq] at hp
            cases hp
            have hlt := (List.getElem?_eq_some_iff.mp hq).1
            have := hpp p P hq
            rw [if_pos (by omega)] at this
            exact this
        · rw [hwb 4 (by omega), hn]; simp [nightWd]
      · rw [hwb 4 (by omega), hn, nI_le_iff (by omega) (by omega)] at c_17
        obtain ⟨g1, g2⟩ := hP i (by omega)
        have sP := g2.1
        obtain ⟨P, hPi⟩ : ∃ P, W.1[i]? = some P := ⟨_, List.getElem?_eq_getElem (by omega)⟩
        have hrP := hpp i P hPi
        rw [if_neg (Nat.lt_irrefl i)] at hrP
        have hlP := hlen P (mem_of_get hPi)
        refine ld_a0 (np := 21) dX5_passNight_20 rfl ?_
        refine wl_getr (np := 24) dX5_passNight_21 rfl fl_X5_11 rfl (by assumption) (by first | assumption | (rw [nI_clamp (by omega)]; assumption)) ?_
        refine ld_i1 (np := 25) dX5_passNight_24 rfl ?_
        refine wl_aaload (np := 26) dX5_passNight_25 rfl (by assumption) (by decide) (vp_in_nI (by omega) (by decide)) (by first | assumption | (rw [nI_clamp (by omega)]; assumption)) ?_
        refine cvV_0 (np := 29) dX5_passNight_26 rfl lk_X5_74 (by assumption) (Nat.le_of_ble_eq_true rfl) (by omega) (Nat.le_refl _) (Nat.le_refl _) (c_passNight (g2.of rfl) hrP.2.2.2.2.1 hrP.2.2.2.2.2.1 (fun c hc => by obtain ⟨co, hco⟩ := hrP.lt hc; rw [(hrP.2.2.2.2.2.2.1 c co hco).1]; exact hlP co (mem_of_get hco)) (by omega)) (fun m_26 h_26 => ?_)
        have hr1 := rep_night hrP hlP
        have ho := onl_night (I1, me.2) (w + 5 + 6 * i) P.2.1.length
        rw [← h_26] at hr1 ho
        clear h_26
        obtain ⟨I2, R2⟩ := m_26
        obtain rfl : R2 = me.2 := ho.1
        have w6 : gI (I2, me.2) w 6 = nI (W.2.2.2.1 + 1) := (ho.g (by omega)).trans hw6
        have hheat : gI (I2, me.2) (w + 2) ((W.2.2.2.1 + 1) / 30) = W.2.1 ((W.2.2.2.1 + 1) / 30) := ((ho.g (by omega)).trans (hmid _ _ (by omega) (by omega))).trans (hh _ (by omega))
        refine ld_a0 (np := 30) dX5_passNight_29 rfl ?_
        refine wl_getr (np := 33) dX5_passNight_30 rfl fl_X5_11 rfl (by assumption) (by first | assumption | (rw [nI_clamp (by omega)]; assumption)) ?_
        refine ld_i1 (np := 34) dX5_passNight_33 rfl ?_
        refine wl_aaload (np := 35) dX5_passNight_34 rfl (by assumption) (by decide) (vp_in_nI (by omega) (by decide)) (by first | assumption | (rw [nI_clamp (by omega)]; assumption)) ?_
        refine ld_a0 (np := 36) dX5_passNight_35 rfl ?_
        refine ld_a0 (np := 37) dX5_passNight_36 rfl ?_
        refine wl_geti (np := 40) dX5_passNight_37 rfl fl_X5_45 (by decide) (by assumption) ?_
        refine ciV_1 (np := 43) dX5_passNight_40 rfl lk_X5_75 (by assumption) (Nat.le_of_ble_eq_true rfl) (by omega) (Nat.le_refl _) (Nat.le_refl _) (by rw [w6]; exact c_heatOn (hws.of rfl) (by omega) (by omega)) (fun x_40 m_40 h_40 => ?_)
        obtain ⟨rfl, q40⟩ := h_40
        have q40 := q40.symm
        subst q40
        rw [hheat]
        refine ciV_1 (np := 46) dX5_passNight_43 rfl lk_X5_79 (by assumption) (Nat.le_of_ble_eq_true rfl) (by omega) (Nat.le_refl _) (Nat.le_refl _) (c_isOver _ (g2.of rfl) hr1.2.2.2.2.1 hr1.2.2.2.2.2.1 (by omega)) (fun x_43 m_43 h_43 => ?_)
        obtain ⟨h43, q43⟩ := h_43
        have q43 := q43.symm
        subst q43
        rw [hot_iff hr1] at h43
        have fin : ∀ m : Mem, m.2 = me.2 → Onl (I2, me.2) m (w + 5 + 6 * i) (w + 5 + 6 * i + 6) → RepP m (w + 5 + 6 * i) (nightP P (W.2.1 ((W.2.2.2.1 + 1) / 30)) (nI (W.2.2.2.1 + 1))) → Wa mX5_passNight (0, fun _ => 0) d 0 0 sh.length (PV sh (fun m => RepW m w (nightWd W) ∧ Onl me m w (w + 35))) 12 [.ref w, .int (nI (i + 1))] [] sh m 0 0 := by
          intro m hm2 hom hrm
          refine ih (i + 1) m (by omega) (by omega) hm2 (fun a ha => ?_) (fun b hb => ?_) ?_ (fun a b ha hb => ?_) (fun p P' hp => ?_)
          · rw [hom.2 a (by omega), ho.2 a (by omega)]; exact hout a ha
          · rw [hom.g (by omega), ho.g (by omega)]; exact hwb b hb
          · rw [hom.g (by omega)]; exact w6
          · rw [hom.g (by omega), ho.g (by omega)]; exact hmid a b ha hb
          · by_cases hpi : p = i
            · subst hpi
              rw [hPi] at hp
              cases hp
              rw [if_pos (by omega)]
              exact hrm
            · have := hpp p P' hp
              have e : (if p < i + 1 then nightP P' (W.2.1 ((W.2.2.2.1 + 1) / 30)) (nI (W.2.2.2.1 + 1)) else P') = (if p < i then nightP P' (W.2.1 ((W.2.2.2.1 + 1) / 30)) (nI (W.2.2.2.1 + 1)) else P') := by
                by_cases hlt : p < i
                · rw [if_pos hlt, if_pos (by omega)]
                · rw [if_neg hlt, if_neg (by omega)]
              rw [e]
              exact this.fr (fun a ha hb => by rw [hom.2 a (by omega), ho.2 a (by omega)])
        refine wl_if_eq (np := 49) (tg := 62) dX5_passNight_46 rfl rfl (fun c_46 => ?_) (fun c_46 => ?_)
        · rcases h43 with ⟨h1, -⟩ | ⟨-, h2⟩
          · rw [c_46] at h1; exact absurd h1 (by decide)
          · refine inc_1 (np := 65) (v := _ + 1) dX5_passNight_62 rfl rfl (by decide) rfl ?_
            refine wl_goto (tg := 12) dX5_passNight_65 rfl ?_
            rw [← nI_succ]
            refine fin (I2, me.2) rfl Onl.rf ?_
            unfold nightP
            rw [if_neg h2]
            exact hr1
        · rcases h43 with ⟨-, h2⟩ | ⟨h1, -⟩
          · refine ld_a0 (np := 50) dX5_passNight_49 rfl ?_
            refine wl_getr (np := 53) dX5_passNight_50 rfl fl_X5_11 rfl (by assumption) (by first | assumption | (rw [nI_clamp (by omega)]; assumption)) ?_
            refine ld_i1 (np := 54) dX5_passNight_53 rfl ?_
            refine wl_aaload (np := 55) dX5_passNight_54 rfl (by assumption) (by decide) (vp_in_nI (by omega) (by decide)) (by first | assumption | (rw [nI_clamp (by omega)]; assumption)) ?_
            refine ld_a0 (np := 56) dX5_passNight_55 rfl ?_
            refine wl_geti (np := 59) dX5_passNight_56 rfl fl_X5_45 (by decide) (by assumption) ?_
            refine cvV_1 (np := 62) dX5_passNight_59 rfl lk_X5_82 (by assumption) (Nat.le_of_ble_eq_true rfl) (by omega) (Nat.le_refl _) (Nat.le_refl _) (c_fall _ (g2.of rfl)) (fun m_59 h_59 => ?_)
            have q_59 := h_59.symm
            subst q_59
            refine inc_1 (np := 65) (v := _ + 1) dX5_passNight_62 rfl rfl (by decide) rfl ?_
            refine wl_goto (tg := 12) dX5_passNight_65 rfl ?_
            rw [← nI_succ, w6]
            refine fin _ (onl_fall _ _ _).1 (onl_fall _ _ _) ?_
            unfold nightP
            rw [if_pos h2]
            exact rep_fall hr1 _
          · exact absurd h1 c_46
  refine CV.mk (L := [.ref w, .float 0]) (by decide) (Nat.le_of_ble_eq_true rfl) rfl ?_
  refine ld_a0 (np := 1) dX5_passNight_0 rfl ?_
  refine wl_dup (np := 2) dX5_passNight_1 rfl rfl ?_
  refine wl_geti (np := 5) dX5_passNight_2 rfl fl_X5_45 (by decide) (by assumption) ?_
  refine wl_iconst (np := 6) (v := 1) dX5_passNight_5 rfl (rfl) ?_
  refine wl_iadd (np := 7) dX5_passNight_6 rfl ?_
  refine wl_puti (np := 10) dX5_passNight_7 rfl fl_X5_45 nf_5_6 rfl (by assumption) ?_
  refine wl_iconst (np := 11) (v := 0) dX5_passNight_10 rfl (rfl) ?_
  refine st_i1 (np := 12) dX5_passNight_11 rfl (by decide) rfl ?_
  rw [hdy, ← nI_succ]
  refine key (W.1.length + 1) 0 _ (by omega) (by omega) rfl (fun a ha => funext fun b => ?_) (fun b hb => ?_) ?_ (fun a b h1 h2 => ?_) (fun p P hp => ?_)
  · show gI (uI me w 6 _) a b = gI me a b
    rw [gI_uI, if_neg (by omega)]
  · rw [gI_uI, if_neg (by omega)]
  · rw [gI_uI]; simp
  · rw [gI_uI, if_neg (by omega)]
  · rw [if_neg (by omega)]
    refine (hps p P hp).fr (fun a h1 h2 => funext fun b => ?_)
    show gI (uI me w 6 _) a b = gI me a b
    rw [gI_uI, if_neg (by omega)]
set_option maxHeartbeats 4000000 in
set_option maxRecDepth 100000 in
theorem c_passUntil {t : Nat} (hw : isW sh me w) (hr : RepW me w W) (hlen : lenW W) (ht : t ≤ 359) (hd : 4 ≤ d) : CV d mX5_passNightsUntil sh [.ref w, .int (nI t)] me (fun m => RepW m w (nightsW (t - W.2.2.2.1) W) ∧ Onl me m w (w + 35)) := by
  have hws := hw
  obtain ⟨s0, s1, s2, s3, s4, r0, r1, r2, r3, hP⟩ := hw
  have hdl := hr.2.2.2.2.2.2.2.1
  have key : ∀ fuel (i : Nat) (m : Mem) (V : Wld), t - i < fuel → i = V.2.2.2.1 → RepW m w V → lenW V → Onl me m w (w + 35) → nightsW (t - i) V = nightsW (t - W.2.2.2.1) W → i ≤ 359 → 
      Wa mX5_passNightsUntil (0, fun _ => 0) d 0 0 sh.length (PV sh (fun m => RepW m w (nightsW (t - W.2.2.2.1) W) ∧ Onl me m w (w + 35))) 5 [.ref w, .int (nI t), .int (nI i)] [] sh m 0 0 := by
    intro fuel
    induction fuel with
    | zero => intro i m V h; omega
    | succ fuel ih =>
      intro i m V hi hiV hrV hlV hO hN hi9
      refine ld_i2 (np := 6) dX5_passNightsUntil_5 rfl ?_
      refine ld_i1 (np := 7) dX5_passNightsUntil_6 rfl ?_
      refine wl_icmp_ge (np := 10) (tg := 20) dX5_passNightsUntil_7 rfl rfl (fun c_7 => ?_) (fun c_7 => ?_)
      · rw [nI_le_iff (by omega) (by omega)] at c_7
        refine wv_ret dX5_passNightsUntil_20 rfl (Nat.le_refl _) (Nat.le_refl _) ?_
        rw [show t - i = 0 by omega] at hN
        rw [← hN]
        exact ⟨hrV, hO⟩
      · rw [nI_le_iff (by omega) (by omega)] at c_7
        refine ld_a0 (np := 11) dX5_passNightsUntil_10 rfl ?_
        refine cvV_0 (np := 14) dX5_passNightsUntil_11 rfl lk_X5_71 (by assumption) (Nat.le_of_ble_eq_true rfl) (by omega) (Nat.le_refl _) (Nat.le_refl _) (c_W_passNight (hws.of hO.1) hrV hlV (by omega) (by omega)) (fun m_11 h_11 => ?_)
        obtain ⟨h1, h2⟩ := h_11
        refine inc_2 (np := 17) (v := _ + 1) dX5_passNightsUntil_14 rfl rfl (by decide) rfl ?_
        refine wl_goto (tg := 5) dX5_passNightsUntil_17 rfl ?_
        rw [← nI_succ]
        refine ih (i + 1) m_11 (nightWd V) (by omega) (by rw [hiV]; rfl) h1 (lenW_night hlV) (hO.tr h2) ?_ (by omega)
        rw [← hN, show t - i = (t - (i + 1)) + 1 by omega]
        rfl
  refine CV.mk (L := [.ref w, .int (nI t), .float 0]) (by decide) (Nat.le_of_ble_eq_true rfl) rfl ?_
  refine ld_a0 (np := 1) dX5_passNightsUntil_0 rfl ?_
  refine wl_geti (np := 4) dX5_passNightsUntil_1 rfl fl_X5_45 (by decide) (by assumption) ?_
  refine st_i2 (np := 5) dX5_passNightsUntil_4 rfl (by decide) rfl ?_
  rw [hr.2.2.2.2.2.2.1]
  exact key (t + 1) W.2.2.2.1 me W (by omega) rfl hr hlen Onl.rf rfl hdl
end WORLD2
