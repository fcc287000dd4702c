/-! nights keep who there is -/
theorem night_len (P : Prs) (a b : Int32) : (nightP P a b).2.1.length = P.2.1.length := by
  unfold nightP
  split
  · simp [fallP, restP]
  · simp [restP]
theorem nights_facts : ∀ (n : Nat) (W : Wld), (nightsW n W).1.length = W.1.length ∧ (nightsW n W).2.2.2.1 = W.2.2.2.1 + n ∧ (nightsW n W).2.1 = W.2.1 ∧ (nightsW n W).2.2.1 = W.2.2.1 ∧ (nightsW n W).2.2.2.2 = W.2.2.2.2 ∧ (∀ (k : Nat) (P : Prs), W.1[k]? = some P → ∃ P' : Prs, (nightsW n W).1[k]? = some P' ∧ P'.2.1.length = P.2.1.length) ∧ (lenW W → lenW (nightsW n W))
  | 0, W => ⟨rfl, rfl, rfl, rfl, rfl, fun k P h => ⟨P, h, rfl⟩, id⟩
  | n + 1, W => by
    obtain ⟨h1, h2, h3, h4, h5, h6, h7⟩ := nights_facts n (nightWd W)
    refine ⟨h1.trans (by simp [nightWd]), ?_, h3, h4, h5, fun k P hk => ?_, fun h => h7 (lenW_night h)⟩
    · show (nightsW n (nightWd W)).2.2.2.1 = _
      rw [h2]; simp only [nightWd]; omega
    · obtain ⟨P', h8, h9⟩ := h6 k (nightP P (W.2.1 ((W.2.2.2.1 + 1) / 30)) (nI (W.2.2.2.1 + 1))) (by simp only [nightWd, List.getElem?_map, hk]; rfl)
      exact ⟨P', h8, h9.trans (night_len _ _ _)⟩
def wsI (n : Nat) : Int32 := (1 <<< (nI n &&& 31)) - 1
def amtOf (P : Prs) (c : Nat) : Int32 := ((P.2.1[c]?).getD (0, 0, 0, 0)).2.1
def setP (W : Wld) (k : Nat) (P : Prs) : Wld := (W.1.set k P, W.2)
/-- a told payment can be, and what is then -/
def PayR (W : Wld) (dd p c : Int32) (V : Wld) : Prop := ∃ t k j P, dd = nI t ∧ W.2.2.2.1 ≤ t ∧ t ≤ 359 ∧ p = nI k ∧ c = nI j ∧ (nightsW (t - W.2.2.2.1) W).1[k]? = some P ∧ j < P.2.1.length ∧ mayC W.2.2.1.1 (wsI P.2.1.length) (nI j) ∧ ¬ P.1.1 < amtOf P j ∧ V = setP (nightsW (t - W.2.2.2.1) W) k (payP P j)
theorem RepW.set {me m : Mem} {w k : Nat} {W : Wld} {P : Prs} (h : RepW me w W) (hk : k < W.1.length) (hO : Onl me m (w + 5 + 6 * k) (w + 5 + 6 * k + 6)) (hP : RepP m (w + 5 + 6 * k) P) : RepW m w (setP W k P) := by
  obtain ⟨⟨hn5, hps⟩, hn, hh, ho1, ho2, ho3, hdy, hdl, hwn, hw8, hwr⟩ := h
  have e : ∀ j b, j < 5 → gI m (w + j) b = gI me (w + j) b := fun j b hj => hO.g (by omega)
  refine ⟨⟨by simpa [setP] using hn5, fun p P' hp => ?_⟩, (e 0 _ (by omega)).trans (by simpa [setP] using hn), fun j hj => (e 2 _ (by omega)).trans (hh j hj), (e 0 _ (by omega)).trans ho1, (e 0 _ (by omega)).trans ho2, (e 0 _ (by omega)).trans ho3, (e 0 _ (by omega)).trans hdy, hdl, (e 0 _ (by omega)).trans hwn, hw8, fun k a hk => ⟨(e 3 _ (by omega)).trans (hwr k a hk).1, (e 4 _ (by omega)).trans (hwr k a hk).2⟩⟩
  simp only [setP] at hp
  rw [List.getElem?_set] at hp
  by_cases hkp : k = p
  · subst hkp
    rw [if_pos rfl, if_pos hk] at hp
    cases hp
    exact hP
  · rw [if_neg hkp] at hp
    exact (hps p P' hp).fr (fun a ha hb => hO.2 a (by omega))
section WORLD3
variable {sh : List Shp} {me : Mem} {d w : Nat} {W : Wld}
set_option maxHeartbeats 4000000 in
set_option maxRecDepth 100000 in
theorem c_canBePaid (dd p c : Int32) (hw : isW sh me w) (hr : RepW me w W) (hlen : lenW W) (hd : 5 ≤ d) : CI d mX5_canBePaid sh [.ref w, .int dd, .int p, .int c] me (fun x m => (x = 1 ∧ (∃ V, PayR W dd p c V ∧ RepW m w V ∧ lenW V) ∨ x = 0 ∧ ¬ ∃ V, PayR W dd p c V) ∧ Onl me m w (w + 35)) := by
  have hws := hw
  obtain ⟨s0, s1, s2, s3, s4, r0, r1, r2, r3, hP⟩ := hw
  have hl5 := hr.1.1
  have hdy := hr.2.2.2.2.2.2.1
  have hd9 := hr.2.2.2.2.2.2.2.1
  refine CI.mk (L := [.ref w, .int dd, .int p, .int c, .float 0]) (by decide) (Nat.le_of_ble_eq_true rfl) rfl ?_
  refine ld_i1 (np := 1) dX5_canBePaid_0 rfl ?_
  refine ld_a0 (np := 2) dX5_canBePaid_1 rfl ?_
  refine wl_geti (np := 5) dX5_canBePaid_2 rfl fl_X5_45 (by decide) (by assumption) ?_
  refine wl_sipush (np := 8) (v := 359) dX5_canBePaid_5 rfl (by decide) ?_
  refine ciSN_3 (np := 11) dX5_canBePaid_8 rfl lk_X5_57 (Nat.le_of_ble_eq_true rfl) (by omega) (Nat.le_refl _) (Nat.le_refl _) (c_isWithin _ _ _) (fun x_8 m_8 h_8 => ?_)
  obtain ⟨rfl, q_8⟩ := h_8
  have q_8 := q_8.symm
  subst q_8
  refine wl_if_eq (np := 14) (tg := 23) dX5_canBePaid_11 rfl rfl (fun c_11 => ?_) (fun c_11 => ?_)
  · refine wl_iconst (np := 24) (v := 0) dX5_canBePaid_23 rfl (rfl) ?_
    refine wi_ret dX5_canBePaid_24 rfl (by decide) (Nat.le_refl _) (Nat.le_refl _) ?_
    refine ⟨Or.inr ⟨rfl, ?_⟩, Onl.rf⟩
    rintro ⟨V, t, k, j, P, rfl, h1, h2, -⟩
    rw [hdy, if_pos ⟨nI_le h1 (by omega), (show nI t ≤ nI 359 from nI_le h2 (by decide))⟩] at c_11
    exact absurd c_11 (by decide)
  · have hin : gI me w 6 ≤ dd ∧ dd ≤ 359 := Classical.byContradiction fun q => by rw [if_neg q] at c_11; exact c_11 rfl
    rw [hdy] at hin
    obtain ⟨t, ht, rfl⟩ := nI_of2 (x := dd) (M := 359) (n := 359) rfl (Int32.not_lt.mpr (Int32.le_trans (nI_pos' (by omega)) hin.1)) hin.2
    have hdt : W.2.2.2.1 ≤ t := (nI_leI (by omega) (by omega)).mp hin.1
    refine ld_a0 (np := 15) dX5_canBePaid_14 rfl ?_
    refine ld_i2 (np := 16) dX5_canBePaid_15 rfl ?_
    refine ld_i3 (np := 17) dX5_canBePaid_16 rfl ?_
    refine ciV_2 (np := 20) dX5_canBePaid_17 rfl lk_X5_86 (by assumption) (Nat.le_of_ble_eq_true rfl) (by omega) (Nat.le_refl _) (Nat.le_refl _) (c_hasCoat p c hws hr (by omega)) (fun x_17 m_17 h_17 => ?_)
    obtain ⟨h17, q17⟩ := h_17
    have q17 := q17.symm
    subst q17
    obtain ⟨nf1, nf2, nf3, nf4, nf5, nf6, nf7⟩ := nights_facts (t - W.2.2.2.1) W
    refine wl_if_ne (np := 23) (tg := 25) dX5_canBePaid_20 rfl rfl (fun c_20 => ?_) (fun c_20 => ?_)
    · rcases h17 with ⟨-, k, P0, j, hk, rfl, hj, rfl⟩ | ⟨h1, -⟩
      · have hk5 := (List.getElem?_eq_some_iff.mp hk).1
        obtain ⟨P, hPk, hPl⟩ := nf6 k P0 hk
        refine ld_a0 (np := 26) dX5_canBePaid_25 rfl ?_
        refine ld_i1 (np := 27) dX5_canBePaid_26 rfl ?_
        refine cvV_1 (np := 30) dX5_canBePaid_27 rfl lk_X5_90 (by assumption) (Nat.le_of_ble_eq_true rfl) (by omega) (Nat.le_refl _) (Nat.le_refl _) (c_passUntil hws hr hlen ht (by omega)) (fun m_27 h_27 => ?_)
        obtain ⟨hrV, hO⟩ := h_27
        obtain ⟨I1, R1⟩ := m_27
        obtain rfl : R1 = me.2 := hO.1
        obtain ⟨g1, g2⟩ := hP k (by omega)
        have sP := g2.1
        have sA := g2.2.2.1
        have rA := g2.2.2.2.2.2.2.2.1
        have hrP := hrV.1.2 k P hPk
        have hP8 := hrP.2.2.2.2.2.1
        have hjl : j < P.2.1.length := by omega
        obtain ⟨co, hco⟩ := hrP.lt hjl
        have hamt : gI (I1, me.2) (w + 5 + 6 * k + 2) j = amtOf P j := by
          rw [(hrP.2.2.2.2.2.2.1 j co hco).2.1]; unfold amtOf; rw [hco]; rfl
        have hoff : gI (I1, me.2) w 7 = W.2.2.1.1 := by rw [hrV.2.2.2.1, nf4]
        refine ld_a0 (np := 31) dX5_canBePaid_30 rfl ?_
        refine wl_getr (np := 34) dX5_canBePaid_31 rfl fl_X5_11 rfl (by assumption) (by first | assumption | (rw [nI_clamp (by omega)]; assumption)) ?_
        refine ld_i2 (np := 35) dX5_canBePaid_34 rfl ?_
        refine wl_aaload (np := 36) dX5_canBePaid_35 rfl (by assumption) (by decide) (vp_in_nI (by omega) (by decide)) (by first | assumption | (rw [nI_clamp (by omega)]; assumption)) ?_
        refine st_a4 (np := 38) dX5_canBePaid_36 rfl (by decide) rfl ?_
        refine ld_a0 (np := 39) dX5_canBePaid_38 rfl ?_
        refine wl_geti (np := 42) dX5_canBePaid_39 rfl fl_X5_48 (by decide) (by assumption) ?_
        refine ld_a4 (np := 44) dX5_canBePaid_42 rfl ?_
        refine ciV_0 (np := 47) dX5_canBePaid_44 rfl lk_X5_93 (by assumption) (Nat.le_of_ble_eq_true rfl) (by omega) (Nat.le_refl _) (Nat.le_refl _) (c_wornSet (g2.of rfl)) (fun x_44 m_44 h_44 => ?_)
        obtain ⟨rfl, q_44⟩ := h_44
        have q_44 := q_44.symm
        subst q_44
        refine ld_i3 (np := 48) dX5_canBePaid_47 rfl ?_
        refine ciSN_3 (np := 51) dX5_canBePaid_48 rfl lk_X5_97 (Nat.le_of_ble_eq_true rfl) (by omega) (Nat.le_refl _) (Nat.le_refl _) (c_mayComeOff _ _ _) (fun x_48 m_48 h_48 => ?_)
        obtain ⟨h48, q48⟩ := h_48
        have q48 := q48.symm
        subst q48
        rw [hrP.2.2.2.2.1, hoff] at h48
        have fin0 : (¬ mayC W.2.2.1.1 (wsI P.2.1.length) (nI j) ∨ P.1.1 < amtOf P j) → ¬ ∃ V, PayR W (nI t) (nI k) (nI j) V := by
          rintro hno ⟨V, t', k', j', P', e1, e2, e3, e4, e5, e6, e7, e8, e9, e10⟩
          rw [nI_eq (by omega) (by omega)] at e1
          subst e1
          have hk' := (List.getElem?_eq_some_iff.mp e6).1
          rw [nI_eq (by omega) (by omega)] at e4
          subst e4
          rw [hPk] at e6
          cases e6
          rw [nI_eq (by omega) (by omega)] at e5
          subst e5
          exact hno.elim (fun q => q e8) (fun q => e9 q)
        refine wl_if_eq (np := 54) (tg := 69) dX5_canBePaid_51 rfl rfl (fun c_51 => ?_) (fun c_51 => ?_)
        · refine wl_iconst (np := 70) (v := 0) dX5_canBePaid_69 rfl (rfl) ?_
          refine wi_ret dX5_canBePaid_70 rfl (by decide) (Nat.le_refl _) (Nat.le_refl _) ?_
          refine ⟨Or.inr ⟨rfl, fin0 (Or.inl ?_)⟩, hO⟩
          rcases h48 with ⟨h1, -⟩ | ⟨-, h2⟩
          · rw [c_51] at h1; exact absurd h1 (by decide)
          · exact h2
        · rcases h48 with ⟨-, hmay⟩ | ⟨h1, -⟩
          · refine ld_a4 (np := 56) dX5_canBePaid_54 rfl ?_
            refine wl_geti (np := 59) dX5_canBePaid_56 rfl fl_X5_100 (by decide) (by assumption) ?_
            refine ld_a4 (np := 61) dX5_canBePaid_59 rfl ?_
            refine wl_getr (np := 64) dX5_canBePaid_61 rfl fl_X5_103 rfl (by assumption) (by first | assumption | (rw [nI_clamp (by omega)]; assumption)) ?_
            refine ld_i3 (np := 65) dX5_canBePaid_64 rfl ?_
            refine wl_iaload (np := 66) dX5_canBePaid_65 rfl (inA_n sA (by omega) (by decide)) ?_
            refine wl_icmp_ge (np := 69) (tg := 71) dX5_canBePaid_66 rfl rfl (fun c_66 => ?_) (fun c_66 => ?_)
            · rw [nI_clamp (by omega), hamt, hrP.1] at c_66
              refine ld_a4 (np := 73) dX5_canBePaid_71 rfl ?_
              refine ld_i3 (np := 74) dX5_canBePaid_73 rfl ?_
              refine cvV_1 (np := 77) dX5_canBePaid_74 rfl lk_X5_106 (by assumption) (Nat.le_of_ble_eq_true rfl) (by omega) (Nat.le_refl _) (Nat.le_refl _) (c_payOff (g2.of rfl) hrP.2.2.2.2.1 hP8 hjl (by omega)) (fun m_74 h_74 => ?_)
              have q_74 := h_74.symm
              subst q_74
              refine wl_iconst (np := 78) (v := 1) dX5_canBePaid_77 rfl (rfl) ?_
              refine wi_ret dX5_canBePaid_78 rfl (by decide) (Nat.le_refl _) (Nat.le_refl _) ?_
              have hOp := onl_pay (I1, me.2) (w + 5 + 6 * k) j P.2.1.length
              refine ⟨Or.inl ⟨rfl, _, ⟨t, k, j, P, rfl, hdt, ht, rfl, rfl, hPk, hjl, hmay, Int32.not_lt.mpr c_66, rfl⟩, hrV.set (by omega) hOp (rep_pay hrP hjl), ?_⟩, hO.tr (hOp.wd (by omega) (by omega))⟩
              intro P' hP'
              simp only [setP] at hP'
              rcases List.mem_or_eq_of_mem_set hP' with h | rfl
              · exact nf7 hlen P' h
              · intro co' hco'
                simp only [payP] at hco'
                exact nf7 hlen P (mem_of_get hPk) co' (List.mem_of_mem_eraseIdx hco')
            · rw [nI_clamp (by omega), hamt, hrP.1] at c_66
              refine wl_iconst (np := 70) (v := 0) dX5_canBePaid_69 rfl (rfl) ?_
              refine wi_ret dX5_canBePaid_70 rfl (by decide) (Nat.le_refl _) (Nat.le_refl _) ?_
              exact ⟨Or.inr ⟨rfl, fin0 (Or.inr (Int32.not_le.mp c_66))⟩, hO⟩
          · exact absurd h1 c_51
      · exact absurd h1 c_20
    · refine wl_iconst (np := 24) (v := 0) dX5_canBePaid_23 rfl (rfl) ?_
      refine wi_ret dX5_canBePaid_24 rfl (by decide) (Nat.le_refl _) (Nat.le_refl _) ?_
      refine ⟨Or.inr ⟨rfl, ?_⟩, Onl.rf⟩
      rintro ⟨V, t', k', j', P', e1, e2, e3, rfl, rfl, e6, e7, -⟩
      rw [nI_eq (by omega) (by omega)] at e1
      subst e1
      rcases h17 with ⟨h1, -⟩ | ⟨-, h2⟩
      · rw [c_20] at h1; exact absurd h1 (by decide)
      · have hk' := (List.getElem?_eq_some_iff.mp e6).1
        obtain ⟨P0, hP0⟩ : ∃ P, W.1[k']? = some P := ⟨_, List.getElem?_eq_getElem (by omega)⟩
        obtain ⟨P1, h3, h4⟩ := nf6 k' P0 hP0
        rw [e6] at h3
        cases h3
        exact h2 ⟨k', P0, j', hP0, rfl, by omega, rfl⟩
def condSum (set : Int32) (f : Nat → Int32) : Nat → Int32
  | 0 => 0
  | k + 1 => if (set >>> (nI k &&& 31)) &&& 1 = 0 then condSum set f k else condSum set f k + f k
set_option maxHeartbeats 4000000 in
set_option maxRecDepth 100000 in
theorem c_isSet (set th am : Int32) (hw : isW sh me w) (hr : RepW me w W) (hd : 1 ≤ d) : CI d mX5_isSetOfWares sh [.ref w, .int set, .int th, .int am] me (fun x m => (x = 1 ∧ (condSum set (gI me (w + 4)) W.2.2.2.2.length = th ∧ condSum set (gI me (w + 3)) W.2.2.2.2.length = am) ∨ x = 0 ∧ ¬ (condSum set (gI me (w + 4)) W.2.2.2.2.length = th ∧ condSum set (gI me (w + 3)) W.2.2.2.2.length = am)) ∧ m = me) := by
  obtain ⟨s0, s1, s2, s3, s4, r0, r1, r2, r3, hP⟩ := hw
  have hn := hr.2.2.2.2.2.2.2.2.1
  have h8 := hr.2.2.2.2.2.2.2.2.2.1
  generalize hN : W.2.2.2.2.length = N at hn h8 ⊢
  have key : ∀ fuel i, N - i < fuel → i ≤ N → Wa mX5_isSetOfWares (0, fun _ => 0) d 0 0 sh.length (PI sh (fun x m => (x = 1 ∧ (condSum set (gI me (w + 4)) N = th ∧ condSum set (gI me (w + 3)) N = am) ∨ x = 0 ∧ ¬ (condSum set (gI me (w + 4)) N = th ∧ condSum set (gI me (w + 3)) N = am)) ∧ m = me)) 9 [.ref w, .int set, .int th, .int am, .int (condSum set (gI me (w + 4)) i), .int (condSum set (gI me (w + 3)) i), .int (nI i)] [] sh me 0 0 := by
    intro fuel
    induction fuel with
    | zero => intro i h; omega
    | succ fuel ih =>
      intro i hi hin
      refine ld_i6 (np := 11) dX5_isSetOfWares_9 rfl ?_
      refine ld_a0 (np := 12) dX5_isSetOfWares_11 rfl ?_
      refine wl_geti (np := 15) dX5_isSetOfWares_12 rfl fl_X5_42 (by decide) (by assumption) ?_
      refine wl_icmp_ge (np := 18) (tg := 57) dX5_isSetOfWares_15 rfl rfl (fun c_15 => ?_) (fun c_15 => ?_)
      · rw [hn, nI_le_iff (by omega) (by omega)] at c_15
        have hie : i = N := by omega
        subst hie
        refine ld_i4 (np := 59) dX5_isSetOfWares_57 rfl ?_
        refine ld_i2 (np := 60) dX5_isSetOfWares_59 rfl ?_
        refine wl_icmp_ne (np := 63) (tg := 73) dX5_isSetOfWares_60 rfl rfl (fun c_60 => ?_) (fun c_60 => ?_)
        · refine wl_iconst (np := 74) (v := 0) dX5_isSetOfWares_73 rfl (rfl) ?_
          refine wi_ret dX5_isSetOfWares_74 rfl (by decide) (Nat.le_refl _) (Nat.le_refl _) ?_
          exact ⟨Or.inr ⟨rfl, fun q => c_60 q.1⟩, rfl⟩
        · refine ld_i5 (np := 65) dX5_isSetOfWares_63 rfl ?_
          refine ld_i3 (np := 66) dX5_isSetOfWares_65 rfl ?_
          refine wl_icmp_ne (np := 69) (tg := 73) dX5_isSetOfWares_66 rfl rfl (fun c_66 => ?_) (fun c_66 => ?_)
          · refine wl_iconst (np := 74) (v := 0) dX5_isSetOfWares_73 rfl (rfl) ?_
            refine wi_ret dX5_isSetOfWares_74 rfl (by decide) (Nat.le_refl _) (Nat.le_refl _) ?_
            exact ⟨Or.inr ⟨rfl, fun q => c_66 q.2⟩, rfl⟩
          · refine wl_iconst (np := 70) (v := 1) dX5_isSetOfWares_69 rfl (rfl) ?_
            refine wl_goto (tg := 74) dX5_isSetOfWares_70 rfl ?_
            refine wi_ret dX5_isSetOfWares_74 rfl (by decide) (Nat.le_refl _) (Nat.le_refl _) ?_
            exact ⟨Or.inl ⟨rfl, c_60, c_66⟩, rfl⟩
      · rw [hn, nI_le_iff (by omega) (by omega)] at c_15
        refine ld_i1 (np := 19) dX5_isSetOfWares_18 rfl ?_
        refine ld_i6 (np := 21) dX5_isSetOfWares_19 rfl ?_
        refine ciSN_2 (np := 24) dX5_isSetOfWares_21 rfl lk_X5_109 (Nat.le_of_ble_eq_true rfl) (by omega) (Nat.le_refl _) (Nat.le_refl _) (c_isIn _ _) (fun x_21 m_21 h_21 => ?_)
        obtain ⟨rfl, q_21⟩ := h_21
        have q_21 := q_21.symm
        subst q_21
        refine wl_if_eq (np := 27) (tg := 51) dX5_isSetOfWares_24 rfl rfl (fun c_24 => ?_) (fun c_24 => ?_)
        · have hz : (set >>> (nI i &&& 31)) &&& 1 = 0 := Classical.byContradiction fun q => by rw [if_neg q] at c_24; exact absurd c_24 (by decide)
          have e1 : ∀ f, condSum set f (i + 1) = condSum set f i := fun f => if_pos hz
          refine inc_6 (np := 54) (v := _ + 1) dX5_isSetOfWares_51 rfl rfl (by decide) rfl ?_
          refine wl_goto (tg := 9) dX5_isSetOfWares_54 rfl ?_
          rw [← nI_succ, ← e1 (gI me (w + 4)), ← e1 (gI me (w + 3))]
          exact ih (i + 1) (by omega) (by omega)
        · have hz : ¬ (set >>> (nI i &&& 31)) &&& 1 = 0 := fun q => by rw [if_pos q] at c_24; exact c_24 rfl
          have e1 : ∀ f, condSum set f (i + 1) = condSum set f i + f i := fun f => if_neg hz
          refine ld_i4 (np := 29) dX5_isSetOfWares_27 rfl ?_
          refine ld_a0 (np := 30) dX5_isSetOfWares_29 rfl ?_
          refine wl_getr (np := 33) dX5_isSetOfWares_30 rfl fl_X5_24 rfl (by assumption) (by assumption) ?_
          refine ld_i6 (np := 35) dX5_isSetOfWares_33 rfl ?_
          refine wl_iaload (np := 36) dX5_isSetOfWares_35 rfl (inA_n s4 (by omega) (by decide)) ?_
          refine wl_iadd (np := 37) dX5_isSetOfWares_36 rfl ?_
          refine st_i4 (np := 39) dX5_isSetOfWares_37 rfl (by decide) rfl ?_
          refine ld_i5 (np := 41) dX5_isSetOfWares_39 rfl ?_
          refine ld_a0 (np := 42) dX5_isSetOfWares_41 rfl ?_
          refine wl_getr (np := 45) dX5_isSetOfWares_42 rfl fl_X5_21 rfl (by assumption) (by assumption) ?_
          refine ld_i6 (np := 47) dX5_isSetOfWares_45 rfl ?_
          refine wl_iaload (np := 48) dX5_isSetOfWares_47 rfl (inA_n s3 (by omega) (by decide)) ?_
          refine wl_iadd (np := 49) dX5_isSetOfWares_48 rfl ?_
          refine st_i5 (np := 51) dX5_isSetOfWares_49 rfl (by decide) rfl ?_
          refine inc_6 (np := 54) (v := _ + 1) dX5_isSetOfWares_51 rfl rfl (by decide) rfl ?_
          refine wl_goto (tg := 9) dX5_isSetOfWares_54 rfl ?_
          rw [nI_clamp (by omega), ← nI_succ, ← e1 (gI me (w + 4)), ← e1 (gI me (w + 3))]
          exact ih (i + 1) (by omega) (by omega)
  refine CI.mk (L := [.ref w, .int set, .int th, .int am, .float 0, .float 0, .float 0]) (by decide) (Nat.le_of_ble_eq_true rfl) rfl ?_
  refine wl_iconst (np := 1) (v := 0) dX5_isSetOfWares_0 rfl (rfl) ?_
  refine st_i4 (np := 3) dX5_isSetOfWares_1 rfl (by decide) rfl ?_
  refine wl_iconst (np := 4) (v := 0) dX5_isSetOfWares_3 rfl (rfl) ?_
  refine st_i5 (np := 6) dX5_isSetOfWares_4 rfl (by decide) rfl ?_
  refine wl_iconst (np := 7) (v := 0) dX5_isSetOfWares_6 rfl (rfl) ?_
  refine st_i6 (np := 9) dX5_isSetOfWares_7 rfl (by decide) rfl ?_
  exact key (N + 1) 0 (by omega) (by omega)
set_option maxHeartbeats 4000000 in
set_option maxRecDepth 100000 in
theorem c_W_becomeLike {w2 : Nat} (hw : isW sh me w) (hw2 : isW sh me w2) (hr : RepW me w2 W) (hne : w2 + 35 ≤ w ∨ w + 35 ≤ w2) (hd : 4 ≤ d) : CV d mX5_becomeLike sh [.ref w, .ref w2] me (fun m => RepW m w W ∧ Onl me m w (w + 35)) := by
  have hws := hw
  have hws2 := hw2
  obtain ⟨s0, s1, s2, s3, s4, r0, r1, r2, r3, hP⟩ := hw
  obtain ⟨t0, t1, t2, t3, t4, u0, u1, u2, u3, hP2⟩ := hw2
  have hr0 := hr
  obtain ⟨⟨hn5, hps⟩, hn, hh, ho1, ho2, ho3, hdy, hdl, hwn, hw8, hwr⟩ := hr
  have key : ∀ fuel i (m : Mem), W.1.length - i < fuel → i ≤ W.1.length → Onl me m (w + 5) (w + 35) → (∀ p P, p < i → W.1[p]? = some P → RepP m (w + 5 + 6 * p) P) →
      Wa mX5_becomeLike (0, fun _ => 0) d 0 0 sh.length (PV sh (fun m => RepW m w W ∧ Onl me m w (w + 35))) 2 [.ref w, .ref w2, .int (nI i)] [] sh m 0 0 := by
    intro fuel
    induction fuel with
    | zero => intro i m h; omega
    | succ fuel ih =>
      intro i m hi hin hO hpp
      obtain ⟨I1, R1⟩ := m
      obtain rfl : R1 = me.2 := hO.1
      have g2 : ∀ a b, w2 ≤ a → a < w2 + 35 → gI (I1, me.2) a b = gI me a b := fun a b h1 h2 => hO.g (by omega)
      refine ld_i2 (np := 3) dX5_becomeLike_2 rfl ?_
      refine ld_a1 (np := 4) dX5_becomeLike_3 rfl ?_
      refine wl_geti (np := 7) dX5_becomeLike_4 rfl fl_X5_28 (by decide) (by assumption) ?_
      refine wl_icmp_ge (np := 10) (tg := 31) dX5_becomeLike_7 rfl rfl (fun c_7 => ?_) (fun c_7 => ?_)
      · rw [g2 _ _ (by omega) (by omega), hn, nI_le_iff (by omega) (by omega)] at c_7
        refine ld_a1 (np := 32) dX5_becomeLike_31 rfl ?_
        refine wl_getr (np := 35) dX5_becomeLike_32 rfl fl_X5_17 rfl (by assumption) (by assumption) ?_
        refine wl_iconst (np := 36) (v := 0) dX5_becomeLike_35 rfl (rfl) ?_
        refine ld_a0 (np := 37) dX5_becomeLike_36 rfl ?_
        refine wl_getr (np := 40) dX5_becomeLike_37 rfl fl_X5_17 rfl (by assumption) (by assumption) ?_
        refine wl_iconst (np := 41) (v := 0) dX5_becomeLike_40 rfl (rfl) ?_
        refine wl_bipush (np := 43) (v := 12) dX5_becomeLike_41 rfl (by decide) ?_
        refine wl_copy (np := 46) dX5_becomeLike_43 rfl lk_X5_36 (Nat.le_of_ble_eq_true rfl) (by omega) (by assumption) (by assumption) (by decide) (by decide) (by decide) (by decide) (by decide) ?_
        refine ld_a1 (np := 47) dX5_becomeLike_46 rfl ?_
        refine wl_getr (np := 50) dX5_becomeLike_47 rfl fl_X5_21 rfl (by assumption) (by assumption) ?_
        refine wl_iconst (np := 51) (v := 0) dX5_becomeLike_50 rfl (rfl) ?_
        refine ld_a0 (np := 52) dX5_becomeLike_51 rfl ?_
        refine wl_getr (np := 55) dX5_becomeLike_52 rfl fl_X5_21 rfl (by assumption) (by assumption) ?_
        refine wl_iconst (np := 56) (v := 0) dX5_becomeLike_55 rfl (rfl) ?_
        refine wl_bipush (np := 58) (v := 8) dX5_becomeLike_56 rfl (by decide) ?_
        refine wl_copy (np := 61) dX5_becomeLike_58 rfl lk_X5_36 (Nat.le_of_ble_eq_true rfl) (by omega) (by assumption) (by assumption) (by decide) (by decide) (by decide) (by decide) (by decide) ?_
        refine ld_a1 (np := 62) dX5_becomeLike_61 rfl ?_
        refine wl_getr (np := 65) dX5_becomeLike_62 rfl fl_X5_24 rfl (by assumption) (by assumption) ?_
        refine wl_iconst (np := 66) (v := 0) dX5_becomeLike_65 rfl (rfl) ?_
        refine ld_a0 (np := 67) dX5_becomeLike_66 rfl ?_
        refine wl_getr (np := 70) dX5_becomeLike_67 rfl fl_X5_24 rfl (by assumption) (by assumption) ?_
        refine wl_iconst (np := 71) (v := 0) dX5_becomeLike_70 rfl (rfl) ?_
        refine wl_bipush (np := 73) (v := 8) dX5_becomeLike_71 rfl (by decide) ?_
        refine wl_copy (np := 76) dX5_becomeLike_73 rfl lk_X5_36 (Nat.le_of_ble_eq_true rfl) (by omega) (by assumption) (by assumption) (by decide) (by decide) (by decide) (by decide) (by decide) ?_
        refine ld_a0 (np := 77) dX5_becomeLike_76 rfl ?_
        refine ld_a1 (np := 78) dX5_becomeLike_77 rfl ?_
        refine wl_geti (np := 81) dX5_becomeLike_78 rfl fl_X5_28 (by decide) (by assumption) ?_
        refine wl_puti (np := 84) dX5_becomeLike_81 rfl fl_X5_28 nf_5_4 rfl (by assumption) ?_
        refine ld_a0 (np := 85) dX5_becomeLike_84 rfl ?_
        refine ld_a1 (np := 86) dX5_becomeLike_85 rfl ?_
        refine wl_geti (np := 89) dX5_becomeLike_86 rfl fl_X5_42 (by decide) (by assumption) ?_
        refine wl_puti (np := 92) dX5_becomeLike_89 rfl fl_X5_42 nf_5_5 rfl (by assumption) ?_
        refine ld_a0 (np := 93) dX5_becomeLike_92 rfl ?_
        refine ld_a1 (np := 94) dX5_becomeLike_93 rfl ?_
        refine wl_geti (np := 97) dX5_becomeLike_94 rfl fl_X5_45 (by decide) (by assumption) ?_
        refine wl_puti (np := 100) dX5_becomeLike_97 rfl fl_X5_45 nf_5_6 rfl (by assumption) ?_
        refine ld_a0 (np := 101) dX5_becomeLike_100 rfl ?_
        refine ld_a1 (np := 102) dX5_becomeLike_101 rfl ?_
        refine wl_geti (np := 105) dX5_becomeLike_102 rfl fl_X5_48 (by decide) (by assumption) ?_
        refine wl_puti (np := 108) dX5_becomeLike_105 rfl fl_X5_48 nf_5_7 rfl (by assumption) ?_
        refine ld_a0 (np := 109) dX5_becomeLike_108 rfl ?_
        refine ld_a1 (np := 110) dX5_becomeLike_109 rfl ?_
        refine wl_geti (np := 113) dX5_becomeLike_110 rfl fl_X5_51 (by decide) (by assumption) ?_
        refine wl_puti (np := 116) dX5_becomeLike_113 rfl fl_X5_51 nf_5_8 rfl (by assumption) ?_
        refine ld_a0 (np := 117) dX5_becomeLike_116 rfl ?_
        refine ld_a1 (np := 118) dX5_becomeLike_117 rfl ?_
        refine wl_geti (np := 121) dX5_becomeLike_118 rfl fl_X5_54 (by decide) (by assumption) ?_
        refine wl_puti (np := 124) dX5_becomeLike_121 rfl fl_X5_54 nf_5_9 rfl (by assumption) ?_
        refine wv_ret dX5_becomeLike_124 rfl (Nat.le_refl _) (Nat.le_refl _) ?_
        have hfin : ∀ mm : Mem, (∀ a b, gI mm a b = if a = w ∧ 4 ≤ b ∧ b ≤ 9 then gI me w2 b else if a = w + 2 ∧ b < 12 then gI me (w2 + 2) b else if a = w + 3 ∧ b < 8 then gI me (w2 + 3) b else if a = w + 4 ∧ b < 8 then gI me (w2 + 4) b else gI (I1, me.2) a b) → mm.2 = me.2 → RepW mm w W ∧ Onl me mm w (w + 35) := by
          intro mm hmm hm2
          have e4 : ∀ b, 4 ≤ b → b ≤ 9 → gI mm w b = gI me w2 b := fun b h1 h2 => by rw [hmm, if_pos ⟨rfl, h1, h2⟩]
          refine ⟨⟨⟨hn5, fun p P hp => ?_⟩, (e4 _ (by omega) (by omega)).trans hn, fun j hj => ?_, (e4 _ (by omega) (by omega)).trans ho1, (e4 _ (by omega) (by omega)).trans ho2, (e4 _ (by omega) (by omega)).trans ho3, (e4 _ (by omega) (by omega)).trans hdy, hdl, (e4 _ (by omega) (by omega)).trans hwn, hw8, fun k a hk => ?_⟩, hm2, fun a ha => funext fun b => ?_⟩
          · have hlt := (List.getElem?_eq_some_iff.mp hp).1
            refine (hpp p P (by omega) hp).fr (fun a h1 h2 => funext fun b => ?_)
            show gI mm a b = gI (I1, me.2) a b
            rw [hmm, if_neg (by omega), if_neg (by omega), if_neg (by omega), if_neg (by omega)]
          · rw [hmm, if_neg (by omega), if_pos ⟨rfl, hj⟩]; exact hh j hj
          · have hlt := (List.getElem?_eq_some_iff.mp hk).1
            exact ⟨by rw [hmm, if_neg (by omega), if_neg (by omega), if_pos ⟨rfl, by omega⟩]; exact (hwr k a hk).1, by rw [hmm, if_neg (by omega), if_neg (by omega), if_neg (by omega), if_pos ⟨rfl, by omega⟩]; exact (hwr k a hk).2⟩
          · show gI mm a b = gI me a b
            rw [hmm, if_neg (by omega), if_neg (by omega), if_neg (by omega), if_neg (by omega)]
            exact hO.g (by omega)
        refine hfin _ (fun a b => ?_) rfl
        have e0 : (0 : Int32).toNatClampNeg = 0 := rfl
        have e8 : (8 : Int32).toNatClampNeg = 8 := rfl
        have e12 : (12 : Int32).toNatClampNeg = 12 := rfl
        simp only [gI_uI, gI_uA, va_cpy, e0, e8, e12]
        have k2 := g2 w2
        have k3 := g2 (w2 + 2)
        have k4 := g2 (w2 + 3)
        have k5 := g2 (w2 + 4)
        clear hfin ih hpp hO g2 hP hP2 hps hh hwr hws hws2 s0 s1 s2 s3 s4 r0 r1 r2 r3 t0 t1 t2 t3 t4 u0 u1 u2 u3 hr0
        by_cases h1 : a = w
        · subst h1; grind (splits := 30)
        by_cases h2 : a = w + 2
        · subst h2; grind (splits := 30)
        by_cases h3 : a = w + 3
        · subst h3; grind (splits := 30)
        by_cases h4 : a = w + 4
        · subst h4; grind (splits := 30)
        grind (splits := 30)
      · rw [g2 _ _ (by omega) (by omega), hn, nI_le_iff (by omega) (by omega)] at c_7
        obtain ⟨ga, gb⟩ := hP i (by omega)
        obtain ⟨gc, gd⟩ := hP2 i (by omega)
        have sP := gb.1
        obtain ⟨P, hPi⟩ : ∃ P, W.1[i]? = some P := ⟨_, List.getElem?_eq_getElem (by omega)⟩
        refine ld_a0 (np := 11) dX5_becomeLike_10 rfl ?_
        refine wl_getr (np := 14) dX5_becomeLike_11 rfl fl_X5_11 rfl (by assumption) (by first | assumption | (rw [nI_clamp (by omega)]; assumption)) ?_
        refine ld_i2 (np := 15) dX5_becomeLike_14 rfl ?_
        refine wl_aaload (np := 16) dX5_becomeLike_15 rfl (by assumption) (by decide) (vp_in_nI (by omega) (by decide)) (by first | assumption | (rw [nI_clamp (by omega)]; assumption)) ?_
        refine ld_a1 (np := 17) dX5_becomeLike_16 rfl ?_
        refine wl_getr (np := 20) dX5_becomeLike_17 rfl fl_X5_11 rfl (by assumption) (by first | assumption | (rw [nI_clamp (by omega)]; assumption)) ?_
        refine ld_i2 (np := 21) dX5_becomeLike_20 rfl ?_
        refine wl_aaload (np := 22) dX5_becomeLike_21 rfl (by assumption) (by decide) (vp_in_nI (by omega) (by decide)) (by first | assumption | (rw [nI_clamp (by omega)]; assumption)) ?_
        refine cvV_1 (np := 25) dX5_becomeLike_22 rfl lk_X5_32 (by assumption) (Nat.le_of_ble_eq_true rfl) (by omega) (Nat.le_refl _) (Nat.le_refl _) (c_becomeLike (gb.of rfl) (gd.of rfl) (by omega) (by omega)) (fun m_22 h_22 => ?_)
        have q_22 := h_22.symm
        subst q_22
        refine inc_2 (np := 28) (v := _ + 1) dX5_becomeLike_25 rfl rfl (by decide) rfl ?_
        refine wl_goto (tg := 2) dX5_becomeLike_28 rfl ?_
        rw [← nI_succ]
        have hol := onl_like (I1, me.2) (w + 5 + 6 * i) (w2 + 5 + 6 * i)
        refine ih (i + 1) _ (by omega) (by omega) (hO.tr (hol.wd (by omega) (by omega))) (fun p P' hp hp' => ?_)
        by_cases hpi : p = i
        · subst hpi
          rw [hPi] at hp'
          cases hp'
          refine rep_like ((hps p P hPi).fr (fun a h1 h2 => ?_)) (by omega)
          exact hO.2 a (by omega)
        · exact (hpp p P' (by omega) hp').fr (fun a h1 h2 => hol.2 a (by omega))
  refine CV.mk (L := [.ref w, .ref w2, .float 0]) (by decide) (Nat.le_of_ble_eq_true rfl) rfl ?_
  refine wl_iconst (np := 1) (v := 0) dX5_becomeLike_0 rfl (rfl) ?_
  refine st_i2 (np := 2) dX5_becomeLike_1 rfl (by decide) rfl ?_
  exact key (W.1.length + 1) 0 me (by omega) (by omega) Onl.rf (fun p P h => by omega)
end WORLD3
