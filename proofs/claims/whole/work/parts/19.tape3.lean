section TAPE3
variable {sh : List Shp} {me : Mem} {d t n p q : Nat} {cs : List Coat}
/-- what a read of one coat leaves -/
def CoatM (me : Mem) (t q : Nat) (k : Nat) (r : Nat × Option Coat) (x : Int32) (m : Mem) : Prop := match r with
  | (p', none) => x = 0 ∧ m = uI me t 2 (nI p')
  | (p', some co) => x = 1 ∧ m = putM (uI me t 2 (nI p')) q k co.1 co.2.1 co.2.2.1 co.2.2.2
set_option maxHeartbeats 4000000 in
set_option maxRecDepth 100000 in
theorem c_readCoat (hq : isT sh me t) (hs : isP sh me q) (hqt : q + 6 ≤ t) (hl : gI me t 1 = nI n) (hn : n ≤ 80) (hp : gI me t 2 = nI p) (hpn : p ≤ n) (hw : gI me q 5 = nI cs.length) (hc8 : cs.length < 8) (hd : 3 ≤ d) : CI d mX4_readCoat sh [.ref t, .ref q] me (fun x m => CoatM me t q cs.length (coatS (gI me (t + 1)) n p) x m) := by
  have hqs := hq
  have hss := hs
  obtain ⟨s0, s1, r0⟩ := hq
  obtain ⟨z0, z1, z2, z3, z4, z5, y0, y1, y2, y3, y4⟩ := hs
  have f1 : ∀ j, gI (uI me t 2 (nI j)) t 1 = nI n := fun j => by rw [gI_uI_nb (by omega)]; exact hl
  have f2 : ∀ j, gI (uI me t 2 (nI j)) t 2 = nI j := fun j => gI_uI_self _ _ _ _
  have f3 : ∀ j, gI (uI me t 2 (nI j)) (t + 1) = gI me (t + 1) := fun j => gI_uI_ne (by omega)
  have hsk := skB_le (f := gI me (t + 1)) hpn
  generalize hF : gI me (t + 1) = F at f3 hsk ⊢
  refine CI.mk (L := [.ref t, .ref q, .float 0, .float 0, .float 0, .float 0]) (by decide) (Nat.le_of_ble_eq_true rfl) rfl ?_
  -- behind the number of the amount
  have k97 : ∀ (l a r th : Int32) (p6 : Nat), coatS F n p = (p6, some (l, a, r, th)) → Wa mX4_readCoat (0, fun _ => 0) d 0 0 sh.length (PI sh (fun x m => CoatM me t q cs.length (coatS F n p) x m)) 97 [.ref t, .ref q, .int l, .int a, .int r, .int th] [] sh (uI me t 2 (nI p6)) 0 0 := by
    intro l a r th p6 he
    refine ld_a1 (np := 98) dX4_readCoat_97 rfl ?_
    refine ld_i2 (np := 99) dX4_readCoat_98 rfl ?_
    refine ld_i3 (np := 100) dX4_readCoat_99 rfl ?_
    refine ld_i4 (np := 102) dX4_readCoat_100 rfl ?_
    refine ld_i5 (np := 104) dX4_readCoat_102 rfl ?_
    refine cvV_4 (np := 107) dX4_readCoat_104 rfl lk_X4_55 (by assumption) (Nat.le_of_ble_eq_true rfl) (by omega) (Nat.le_refl _) (Nat.le_refl _) (c_putOn l a r th (hss.of rfl) (n := cs.length) (by rw [gI_uI_ne (by omega)]; exact hw) hc8) (fun m_104 h_104 => ?_)
    have q_104 := h_104.symm
    subst q_104
    refine wl_iconst (np := 108) (v := 1) dX4_readCoat_107 rfl (rfl) ?_
    refine wi_ret dX4_readCoat_108 rfl (by decide) (Nat.le_refl _) (Nat.le_refl _) ?_
    rw [he]
    exact ⟨rfl, rfl⟩
  have k88 : ∀ (l a r : Int32) (p4 p6 : Nat) (o : Option Int32), (0 ≤ ovI o ↔ ∃ v, o = some v) → (coatS F n p = match o with | none => (p6, none) | some th => (p6, some (l, a, r, th))) → Wa mX4_readCoat (0, fun _ => 0) d 0 0 sh.length (PI sh (fun x m => CoatM me t q cs.length (coatS F n p) x m)) 88 [.ref t, .ref q, .int l, .int a, .int r, .float 0] [.int (ovI o)] sh (uI me t 2 (nI p6)) 0 0 := by
    intro l a r p4 p6 o ho he
    refine st_i5 (np := 90) dX4_readCoat_88 rfl (by decide) rfl ?_
    refine ld_i5 (np := 92) dX4_readCoat_90 rfl ?_
    refine wl_if_ge (np := 95) (tg := 97) dX4_readCoat_92 rfl rfl (fun c_92 => ?_) (fun c_92 => ?_)
    · obtain ⟨v, rfl⟩ := ho.mp c_92
      exact k97 l a r v p6 he
    · match o, ho, he, c_92 with
      | some v, ho, he, c_92 => exact absurd (ho.mpr ⟨v, rfl⟩) c_92
      | none, ho, he, c_92 =>
        refine wl_iconst (np := 96) (v := 0) dX4_readCoat_95 rfl (rfl) ?_
        refine wi_ret dX4_readCoat_96 rfl (by decide) (Nat.le_refl _) (Nat.le_refl _) ?_
        rw [he]
        exact ⟨rfl, rfl⟩
  have k62 : ∀ (l a : Int32) (p4 : Nat) (o : Option Int32), p4 ≤ n → (0 ≤ ovI o ↔ ∃ v, o = some v) → (coatS F n p = match o with | none => (p4, none) | some r => match opS (skS F n p4 116).2 (digS F n (skS F n p4 116).1) (skS F n p4 116).1 1 with | (p6, none) => (p6, none) | (p6, some th) => (p6, some (l, a, r, th))) → Wa mX4_readCoat (0, fun _ => 0) d 0 0 sh.length (PI sh (fun x m => CoatM me t q cs.length (coatS F n p) x m)) 62 [.ref t, .ref q, .int l, .int a, .float 0, .float 0] [.int (ovI o)] sh (uI me t 2 (nI p4)) 0 0 := by
    intro l a p4 o hp4 ho he
    refine st_i4 (np := 64) dX4_readCoat_62 rfl (by decide) rfl ?_
    refine ld_i4 (np := 66) dX4_readCoat_64 rfl ?_
    refine wl_if_ge (np := 69) (tg := 71) dX4_readCoat_66 rfl rfl (fun c_66 => ?_) (fun c_66 => ?_)
    · obtain ⟨r, rfl⟩ := ho.mp c_66
      have hsl := skS_le (f := F) (n := n) (p := p4) (c := 116) hp4 (by decide)
      refine ld_a0 (np := 72) dX4_readCoat_71 rfl ?_
      refine wl_bipush (np := 74) (v := 116) dX4_readCoat_72 rfl (by decide) ?_
      refine ciV_1 (np := 77) dX4_readCoat_74 rfl lk_X4_41 (by assumption) (Nat.le_of_ble_eq_true rfl) (by omega) (Nat.le_refl _) (Nat.le_refl _) (c_skipIf 116 (hqs.of rfl) (f1 _) hn (f2 _) hp4 (by omega)) (fun x_74 m_74 h_74 => ?_)
      obtain ⟨rfl, q_74⟩ := h_74
      have q_74 := q_74.symm
      subst q_74
      refine wl_if_eq (np := 80) (tg := 87) dX4_readCoat_77 rfl rfl (fun c_77 => ?_) (fun c_77 => ?_)
      · have hb : (skS F n p4 116).2 = false := by
          rw [f3] at c_77
          cases hb : (skS F n p4 116).2 with
          | false => rfl
          | true => rw [hb] at c_77; exact absurd c_77 (by decide)
        refine wl_iconst (np := 88) (v := 1) dX4_readCoat_87 rfl (rfl) ?_
        rw [f3, uI_uI]
        refine k88 l a r p4 _ (some 1) ⟨fun _ => ⟨1, rfl⟩, fun _ => by decide⟩ ?_
        rw [he, hb]
        rfl
      · have hb : (skS F n p4 116).2 = true := by
          rw [f3] at c_77
          cases hb : (skS F n p4 116).2 with
          | true => rfl
          | false => rw [hb] at c_77; exact absurd rfl c_77
        rw [f3, uI_uI]
        refine ld_a0 (np := 81) dX4_readCoat_80 rfl ?_
        refine ciV_0 (np := 84) dX4_readCoat_81 rfl lk_X4_52 (by assumption) (Nat.le_of_ble_eq_true rfl) (by omega) (Nat.le_refl _) (Nat.le_refl _) (c_readDigit (hqs.of rfl) (f1 _) hn (f2 _) hsl (by omega)) (fun x_81 m_81 h_81 => ?_)
        obtain ⟨rfl, q_81⟩ := h_81
        have q_81 := q_81.symm
        subst q_81
        refine wl_goto (tg := 88) dX4_readCoat_84 rfl ?_
        rw [f3, uI_uI]
        have hpos : ∀ v, (digS F n (skS F n p4 116).1).2 = some v → 1 ≤ v ∧ v ≤ 9 := fun v h => digS_pos h
        generalize hD : digS F n (skS F n p4 116).1 = D at hpos ⊢
        obtain ⟨p6, o6⟩ := D
        refine k88 l a r p4 p6 o6 ?_ ?_
        · cases o6 with
          | none => exact ⟨fun h => absurd h (by decide), fun ⟨v, h⟩ => by cases h⟩
          | some v => exact ⟨fun _ => ⟨v, rfl⟩, fun _ => Int32.le_trans (by decide) (hpos v rfl).1⟩
        · rw [he, hb, hD]
          cases o6 <;> rfl
    · match o, ho, he, c_66 with
      | some v, ho, he, c_66 => exact absurd (ho.mpr ⟨v, rfl⟩) c_66
      | none, ho, he, c_66 =>
        refine wl_iconst (np := 70) (v := 0) dX4_readCoat_69 rfl (rfl) ?_
        refine wi_ret dX4_readCoat_70 rfl (by decide) (Nat.le_refl _) (Nat.le_refl _) ?_
        rw [he]
        exact ⟨rfl, rfl⟩
  refine ld_a0 (np := 1) dX4_readCoat_0 rfl ?_
  refine ciV_0 (np := 4) dX4_readCoat_1 rfl lk_X4_37 (by assumption) (Nat.le_of_ble_eq_true rfl) (by omega) (Nat.le_refl _) (Nat.le_refl _) (c_nextByte hqs hl hn hp hpn) (fun x_1 m_1 h_1 => ?_)
  obtain ⟨rfl, q_1⟩ := h_1
  have q_1 := q_1.symm
  subst q_1
  refine wl_bipush (np := 6) (v := 97) dX4_readCoat_4 rfl (by decide) ?_
  refine wl_isub (np := 7) dX4_readCoat_6 rfl ?_
  refine st_i2 (np := 8) dX4_readCoat_7 rfl (by decide) rfl ?_
  refine ld_i2 (np := 9) dX4_readCoat_8 rfl ?_
  refine ciSN_1 (np := 12) dX4_readCoat_9 rfl lk_X4_45 (Nat.le_of_ble_eq_true rfl) (by omega) (Nat.le_refl _) (Nat.le_refl _) (c_isLender _ (by omega)) (fun x_9 m_9 h_9 => ?_)
  obtain ⟨rfl, q_9⟩ := h_9
  have q_9 := q_9.symm
  subst q_9
  refine wl_if_ne (np := 15) (tg := 17) dX4_readCoat_12 rfl rfl (fun c_12 => ?_) (fun c_12 => ?_)
  · rw [hF] at c_12
    have hz : 0 ≤ nbI F n (skB F n p) - 97 ∧ nbI F n (skB F n p) - 97 ≤ 4 := Classical.byContradiction fun h => c_12 (if_neg h)
    have hlt : skB F n p < n := Classical.byContradiction fun h => by
      have : nbI F n (skB F n p) = -1 := if_neg h
      rw [this] at hz
      exact absurd hz.1 (by decide)
    rw [hF]
    refine ld_a0 (np := 18) dX4_readCoat_17 rfl ?_
    refine wl_dup (np := 19) dX4_readCoat_18 rfl rfl ?_
    refine wl_geti (np := 22) dX4_readCoat_19 rfl fl_X4_25 (by decide) (by assumption) ?_
    refine wl_iconst (np := 23) (v := 1) dX4_readCoat_22 rfl (rfl) ?_
    refine wl_iadd (np := 24) dX4_readCoat_23 rfl ?_
    refine wl_puti (np := 27) dX4_readCoat_24 rfl fl_X4_25 nf_4_2 rfl (by assumption) ?_
    rw [f2, ← nI_succ, uI_uI]
    have hnl := numS_le (f := F) (n := n) (p := skB F n p + 1) (lo := 1) (hi := 9999) (by omega)
    refine ld_a0 (np := 28) dX4_readCoat_27 rfl ?_
    refine wl_iconst (np := 29) (v := 1) dX4_readCoat_28 rfl (rfl) ?_
    refine wl_sipush (np := 32) (v := 9999) dX4_readCoat_29 rfl (by decide) ?_
    refine ciV_2 (np := 35) dX4_readCoat_32 rfl lk_X4_48 (by assumption) (Nat.le_of_ble_eq_true rfl) (by omega) (Nat.le_refl _) (Nat.le_refl _) (c_readNumber 1 9999 (hqs.of rfl) (f1 _) hn (f2 _) (by omega) (by omega)) (fun x_32 m_32 h_32 => ?_)
    obtain ⟨rfl, q_32⟩ := h_32
    have q_32 := q_32.symm
    subst q_32
    refine st_i3 (np := 36) dX4_readCoat_35 rfl (by decide) rfl ?_
    refine ld_i3 (np := 37) dX4_readCoat_36 rfl ?_
    refine wl_if_ge (np := 40) (tg := 42) dX4_readCoat_37 rfl rfl (fun c_37 => ?_) (fun c_37 => ?_)
    · rw [f3, uI_uI]
      rw [f3] at c_37
      have hpos : ∀ v, (numS F n (skB F n p + 1) 1 9999).2 = some v → 1 ≤ v ∧ v ≤ 9999 := fun v h => numS_pos h
      have hcs : coatS F n p = match numS F n (skB F n p + 1) 1 9999 with
          | (p2, none) => (p2, none)
          | (p2, some a) =>
            match opS (skS F n p2 114).2 (numS F n (skS F n p2 114).1 0 20) (skS F n p2 114).1 0 with
            | (p4, none) => (p4, none)
            | (p4, some r) =>
              match opS (skS F n p4 116).2 (digS F n (skS F n p4 116).1) (skS F n p4 116).1 1 with
              | (p6, none) => (p6, none)
              | (p6, some th) => (p6, some (nbI F n (skB F n p) - 97, a, r, th)) := by
        conv => lhs; unfold coatS
        exact if_pos hz
      generalize hN : numS F n (skB F n p + 1) 1 9999 = NN at hnl hpos hcs c_37 ⊢
      obtain ⟨p2, o2⟩ := NN
      match o2, hpos, hcs, c_37 with
      | none, hpos, hcs, c_37 => exact absurd c_37 (show ¬ (0 : Int32) ≤ -1 by decide)
      | some a, hpos, hcs, c_37 =>
        have hsl := skS_le (f := F) (n := n) (p := p2) (c := 114) hnl (by decide)
        show Wa _ _ _ _ _ _ _ 42 [.ref t, .ref q, .int (nbI F n (skB F n p) - 97), .int a, .float 0, .float 0] [] sh (uI me t 2 (nI p2)) 0 0
        refine ld_a0 (np := 43) dX4_readCoat_42 rfl ?_
        refine wl_bipush (np := 45) (v := 114) dX4_readCoat_43 rfl (by decide) ?_
        refine ciV_1 (np := 48) dX4_readCoat_45 rfl lk_X4_41 (by assumption) (Nat.le_of_ble_eq_true rfl) (by omega) (Nat.le_refl _) (Nat.le_refl _) (c_skipIf 114 (hqs.of rfl) (f1 _) hn (f2 _) hnl (by omega)) (fun x_45 m_45 h_45 => ?_)
        obtain ⟨rfl, q_45⟩ := h_45
        have q_45 := q_45.symm
        subst q_45
        refine wl_if_eq (np := 51) (tg := 61) dX4_readCoat_48 rfl rfl (fun c_48 => ?_) (fun c_48 => ?_)
        · have hb : (skS F n p2 114).2 = false := by
            rw [f3] at c_48
            cases hb : (skS F n p2 114).2 with
            | false => rfl
            | true => rw [hb] at c_48; exact absurd c_48 (by decide)
          refine wl_iconst (np := 62) (v := 0) dX4_readCoat_61 rfl (rfl) ?_
          rw [f3, uI_uI]
          refine k62 _ a _ (some 0) hsl ⟨fun _ => ⟨0, rfl⟩, fun _ => by decide⟩ ?_
          rw [hcs]
          dsimp only
          rw [hb]
          rfl
        · have hb : (skS F n p2 114).2 = true := by
            rw [f3] at c_48
            cases hb : (skS F n p2 114).2 with
            | true => rfl
            | false => rw [hb] at c_48; exact absurd rfl c_48
          rw [f3, uI_uI]
          refine ld_a0 (np := 52) dX4_readCoat_51 rfl ?_
          refine wl_iconst (np := 53) (v := 0) dX4_readCoat_52 rfl (rfl) ?_
          refine wl_bipush (np := 55) (v := 20) dX4_readCoat_53 rfl (by decide) ?_
          refine ciV_2 (np := 58) dX4_readCoat_55 rfl lk_X4_48 (by assumption) (Nat.le_of_ble_eq_true rfl) (by omega) (Nat.le_refl _) (Nat.le_refl _) (c_readNumber 0 20 (hqs.of rfl) (f1 _) hn (f2 _) hsl (by omega)) (fun x_55 m_55 h_55 => ?_)
          obtain ⟨rfl, q_55⟩ := h_55
          have q_55 := q_55.symm
          subst q_55
          refine wl_goto (tg := 62) dX4_readCoat_58 rfl ?_
          rw [f3, uI_uI]
          have hpos2 : ∀ v, (numS F n (skS F n p2 114).1 0 20).2 = some v → 0 ≤ v ∧ v ≤ 20 := fun v h => numS_pos h
          have hn2 := numS_le (f := F) (n := n) (p := (skS F n p2 114).1) (lo := 0) (hi := 20) hsl
          generalize hD : numS F n (skS F n p2 114).1 0 20 = D at hpos2 hn2 ⊢
          obtain ⟨p4, o4⟩ := D
          refine k62 _ a p4 o4 hn2 ?_ ?_
          · cases o4 with
            | none => exact ⟨fun h => absurd h (by decide), fun ⟨v, h⟩ => by cases h⟩
            | some v => exact ⟨fun _ => ⟨v, rfl⟩, fun _ => (hpos2 v rfl).1⟩
          · rw [hcs]
            dsimp only
            rw [hb, hD]
            cases o4 <;> rfl
    · rw [f3] at c_37
      have hcs : coatS F n p = match numS F n (skB F n p + 1) 1 9999 with
          | (p2, none) => (p2, none)
          | (p2, some a) =>
            match opS (skS F n p2 114).2 (numS F n (skS F n p2 114).1 0 20) (skS F n p2 114).1 0 with
            | (p4, none) => (p4, none)
            | (p4, some r) =>
              match opS (skS F n p4 116).2 (digS F n (skS F n p4 116).1) (skS F n p4 116).1 1 with
              | (p6, none) => (p6, none)
              | (p6, some th) => (p6, some (nbI F n (skB F n p) - 97, a, r, th)) := by
        conv => lhs; unfold coatS
        exact if_pos hz
      have hpos : ∀ v, (numS F n (skB F n p + 1) 1 9999).2 = some v → 1 ≤ v ∧ v ≤ 9999 := fun v h => numS_pos h
      rw [f3, uI_uI]
      generalize hN : numS F n (skB F n p + 1) 1 9999 = NN at hnl hpos hcs c_37 ⊢
      obtain ⟨p2, o2⟩ := NN
      match o2, hpos, hcs, c_37 with
      | some v, hpos, hcs, c_37 => exact absurd (Int32.le_trans (by decide) (hpos v rfl).1) c_37
      | none, hpos, hcs, c_37 =>
        refine wl_iconst (np := 41) (v := 0) dX4_readCoat_40 rfl (rfl) ?_
        refine wi_ret dX4_readCoat_41 rfl (by decide) (Nat.le_refl _) (Nat.le_refl _) ?_
        rw [hcs]
        exact ⟨rfl, rfl⟩
  · rw [hF] at c_12
    have hz : ¬ (0 ≤ nbI F n (skB F n p) - 97 ∧ nbI F n (skB F n p) - 97 ≤ 4) := fun h => absurd ((if_pos h).symm.trans c_12) (by decide)
    have hcs : coatS F n p = (skB F n p, none) := by
      unfold coatS
      exact if_neg hz
    rw [hF]
    refine wl_iconst (np := 16) (v := 0) dX4_readCoat_15 rfl (rfl) ?_
    refine wi_ret dX4_readCoat_16 rfl (by decide) (Nat.le_refl _) (Nat.le_refl _) ?_
    rw [hcs]
    exact ⟨rfl, rfl⟩
set_option maxHeartbeats 4000000 in
set_option maxRecDepth 100000 in
theorem coatS_le {f : Nat → Int32} {n p : Nat} (h : p ≤ n) : (coatS f n p).1 ≤ n := by
  have h0 := skB_le (f := f) h
  unfold coatS
  dsimp only
  split
  · rename_i hz
    have hlt : skB f n p < n := Classical.byContradiction fun h => by
      have : nbI f n (skB f n p) = -1 := if_neg h
      rw [this] at hz
      exact absurd hz.1 (by decide)
    have h1 := numS_le (f := f) (n := n) (p := skB f n p + 1) (lo := 1) (hi := 9999) (by omega)
    generalize numS f n (skB f n p + 1) 1 9999 = N1 at h1
    obtain ⟨p2, o2⟩ := N1
    cases o2 with
    | none => exact h1
    | some a =>
      dsimp only at h1 ⊢
      have h2 := skS_le (f := f) (n := n) (p := p2) (c := 114) h1 (by decide)
      have h3 : (opS (skS f n p2 114).2 (numS f n (skS f n p2 114).1 0 20) (skS f n p2 114).1 0).1 ≤ n := by
        unfold opS
        split
        · exact numS_le h2
        · exact h2
      generalize opS (skS f n p2 114).2 (numS f n (skS f n p2 114).1 0 20) (skS f n p2 114).1 0 = N2 at h3
      obtain ⟨p4, o4⟩ := N2
      cases o4 with
      | none => exact h3
      | some r =>
        dsimp only at h3 ⊢
        have h4 := skS_le (f := f) (n := n) (p := p4) (c := 116) h3 (by decide)
        have h5 : (opS (skS f n p4 116).2 (digS f n (skS f n p4 116).1) (skS f n p4 116).1 1).1 ≤ n := by
          unfold opS
          split
          · exact digS_le h4
          · exact h4
        generalize opS (skS f n p4 116).2 (digS f n (skS f n p4 116).1) (skS f n p4 116).1 1 = N3 at h5
        obtain ⟨p6, o6⟩ := N3
        cases o6 with
        | none => exact h5
        | some th => exact h5
  · exact h0.2
/-- what a read of all coats leaves -/
def CoatsM (me : Mem) (t q : Nat) (r : Nat ⊕ List Coat) (x : Int32) (m : Mem) : Prop := (m.2 = me.2 ∧ ∀ a, ¬ (a = t ∨ (q ≤ a ∧ a < q + 6)) → m.1 a = me.1 a) ∧ (∀ b, b ≠ 2 → gI m t b = gI me t b) ∧ match r with
  | .inl p => x = -20 - nI p
  | .inr l => x = nI l.length ∧ RepCs m q l
set_option maxHeartbeats 4000000 in
set_option maxRecDepth 100000 in
theorem c_readCoats (hq : isT sh me t) (hs : isP sh me q) (hqt : q + 6 ≤ t) (hl : gI me t 1 = nI n) (hn : n ≤ 80) (hok0 : okB (gI me (t + 1)) n) (hd : 4 ≤ d) : CI d mX4_readCoats sh [.ref t, .ref q] me (fun x m => CoatsM me t q (rdS (gI me (t + 1)) n 6 0 []) x m) := by
  have hqs := hq
  have hss := hs
  obtain ⟨s0, s1, r0⟩ := hq
  obtain ⟨z0, z1, z2, z3, z4, z5, y0, y1, y2, y3, y4⟩ := hs
  generalize hF : gI me (t + 1) = F at hok0
  have hok := hok0
  have key : ∀ k (m : Mem) (p : Nat) (acc : List Coat), k ≤ 6 → m.2 = me.2 → (∀ a, ¬ (a = t ∨ (q ≤ a ∧ a < q + 6)) → m.1 a = me.1 a) → (∀ b, b ≠ 2 → gI m t b = gI me t b) → gI m t 2 = nI p → p ≤ n → RepCs m q acc → acc.length + k = 6 → rdS F n k p acc = rdS F n 6 0 [] → 0 < k →
      Wa mX4_readCoats (0, fun _ => 0) d 0 0 sh.length (PI sh (fun x m => CoatsM me t q (rdS F n 6 0 []) x m)) 12 [.ref t, .ref q, .int (nI (7 - k))] [] sh m 0 0 := by
    intro k
    induction k with
    | zero => intro m p acc h1 h2 h3 h4 h5 h6 h7 h8 h9 h10; omega
    | succ k ih =>
      intro m p acc hk6 hm2 hout htb ht2 hpn hacc hlen hrd hk0
      obtain ⟨I1, R1⟩ := m
      obtain rfl : R1 = me.2 := hm2
      have hF1 : gI (I1, me.2) (t + 1) = F := by rw [← hF]; exact hout (t + 1) (by omega)
      have hl1 : gI (I1, me.2) t 1 = nI n := (htb 1 (by omega)).trans hl
      have hcl := coatS_le (f := F) (n := n) hpn
      have endF : ∀ (m' : Mem) (pp : Nat) (L4 : List Value), m'.2 = me.2 → (∀ a, ¬ (a = t ∨ (q ≤ a ∧ a < q + 6)) → m'.1 a = me.1 a) → (∀ b, b ≠ 2 → gI m' t b = gI me t b) → gI m' t 2 = nI pp → rdS F n 6 0 [] = .inl pp → Wa mX4_readCoats (0, fun _ => 0) d 0 0 sh.length (PI sh (fun x m => CoatsM me t q (rdS F n 6 0 []) x m)) 65 (.ref t :: L4) [] sh m' 0 0 := by
        intro m' pp L4 e1 e2 e3 e4 e5
        obtain ⟨I2, R2⟩ := m'
        obtain rfl : R2 = me.2 := e1
        refine wl_bipush (np := 67) (v := -20) dX4_readCoats_65 rfl (by decide) ?_
        refine ld_a0 (np := 68) dX4_readCoats_67 rfl ?_
        refine wl_geti (np := 71) dX4_readCoats_68 rfl fl_X4_25 (by decide) (by assumption) ?_
        refine wl_isub (np := 72) dX4_readCoats_71 rfl ?_
        refine wi_ret dX4_readCoats_72 rfl (rfl) (Nat.le_refl _) (Nat.le_refl _) ?_
        rw [e5, e4]
        exact ⟨⟨rfl, e2⟩, e3, rfl⟩
      refine ld_i2 (np := 13) dX4_readCoats_12 rfl ?_
      refine wl_bipush (np := 15) (v := 6) dX4_readCoats_13 rfl (by decide) ?_
      refine wl_icmp_gt (np := 18) (tg := 65) dX4_readCoats_15 rfl rfl (fun c_15 => ?_) (fun c_15 => ?_)
      · exact absurd c_15 (by rw [show (6 : Int32) = nI 6 from rfl, nI_ltI (by decide) (by omega)]; omega)
      · refine ld_a0 (np := 19) dX4_readCoats_18 rfl ?_
        refine ld_a1 (np := 20) dX4_readCoats_19 rfl ?_
        refine ciV_1 (np := 23) dX4_readCoats_20 rfl lk_X4_33 (by assumption) (Nat.le_of_ble_eq_true rfl) (by omega) (Nat.le_refl _) (Nat.le_refl _) (c_readCoat (cs := acc) (hqs.of rfl) (hss.of rfl) hqt hl1 hn ht2 hpn hacc.1 (by omega) (by omega)) (fun x_20 m_20 h_20 => ?_)
        rw [hF1] at h_20
        have hstep : rdS F n (k + 1) p acc = match coatS F n p with
            | (p', none) => .inl p'
            | (p', some co) => if n ≤ skB F n p' then .inr (acc ++ [co]) else if k = 0 then .inl (skB F n p') else
                match skS F n (skB F n p') 59 with
                | (p3, true) => rdS F n k p3 (acc ++ [co])
                | (p3, false) => .inl p3 := rfl
        rw [hstep] at hrd
        generalize hC : coatS F n p = C1 at h_20 hrd hcl
        obtain ⟨p', o'⟩ := C1
        cases o' with
        | none =>
          obtain ⟨rfl, q20⟩ := h_20
          have q20 := q20.symm
          subst q20
          refine wl_if_ne (np := 26) (tg := 29) dX4_readCoats_23 rfl rfl (fun c_23 => ?_) (fun c_23 => ?_)
          · exact absurd rfl c_23
          · refine wl_goto (tg := 65) dX4_readCoats_26 rfl ?_
            refine endF _ p' _ rfl (fun a ha => ?_) (fun b hb => ?_) (gI_uI_self _ _ _ _) hrd.symm
            · rw [← hout a ha]; exact gI_uI_ne (by omega)
            · rw [gI_uI_nb hb]; exact htb b hb
        | some co =>
          obtain ⟨rfl, q20⟩ := h_20
          have q20 := q20.symm
          subst q20
          dsimp only at hrd hcl
          have hacc2 : RepCs (putM (uI (I1, me.2) t 2 (nI p')) q acc.length co.1 co.2.1 co.2.2.1 co.2.2.2) q (acc ++ [co]) := RepCs.put (hacc.fr (fun a h1 h2 => gI_uI_ne (by omega))) (by omega) co
          have honl := onl_put (uI (I1, me.2) t 2 (nI p')) q acc.length co.1 co.2.1 co.2.2.1 co.2.2.2
          generalize hM : putM (uI (I1, me.2) t 2 (nI p')) q acc.length co.1 co.2.1 co.2.2.1 co.2.2.2 = m2 at hacc2 honl ⊢
          obtain ⟨I2, R2⟩ := m2
          obtain rfl : R2 = me.2 := honl.1
          have o2 : ∀ a, ¬ (a = t ∨ (q ≤ a ∧ a < q + 6)) → I2 a = me.1 a := fun a ha => by
            have e1 : I2 a = (uI (I1, me.2) t 2 (nI p')).1 a := honl.2 a (by omega)
            rw [e1, ← hout a ha]; exact gI_uI_ne (by omega)
          have b2 : ∀ b, b ≠ 2 → gI (I2, me.2) t b = gI me t b := fun b hb => by
            rw [honl.g (by omega), gI_uI_nb hb]; exact htb b hb
          have t2 : gI (I2, me.2) t 2 = nI p' := by rw [honl.g (by omega)]; exact gI_uI_self _ _ _ _
          have hF2 : gI (I2, me.2) (t + 1) = F := by rw [← hF]; exact o2 (t + 1) (by omega)
          have hsk := skB_le (f := F) hcl
          refine wl_if_ne (np := 26) (tg := 29) dX4_readCoats_23 rfl rfl (fun c_23 => ?_) (fun c_23 => ?_)
          · refine ld_a0 (np := 30) dX4_readCoats_29 rfl ?_
            refine ciV_0 (np := 33) dX4_readCoats_30 rfl lk_X4_37 (by assumption) (Nat.le_of_ble_eq_true rfl) (by omega) (Nat.le_refl _) (Nat.le_refl _) (c_nextByte (hqs.of rfl) ((b2 1 (by omega)).trans hl) hn t2 hcl) (fun x_30 m_30 h_30 => ?_)
            obtain ⟨rfl, q_30⟩ := h_30
            have q_30 := q_30.symm
            subst q_30
            refine wl_if_ge (np := 36) (tg := 41) dX4_readCoats_33 rfl rfl (fun c_33 => ?_) (fun c_33 => ?_)
            · rw [hF2] at c_33 ⊢
              have hlt : skB F n p' < n := Classical.byContradiction fun h => by
                have : nbI F n (skB F n p') = -1 := if_neg h
                rw [this] at c_33
                exact absurd c_33 (by decide)
              rw [if_neg (by omega)] at hrd
              have v2 : gI (uI (I2, me.2) t 2 (nI (skB F n p'))) t 2 = nI (skB F n p') := gI_uI_self _ _ _ _
              have w2 : ∀ a, ¬ (a = t ∨ (q ≤ a ∧ a < q + 6)) → (uI (I2, me.2) t 2 (nI (skB F n p'))).1 a = me.1 a := fun a ha => by
                rw [← o2 a ha]; exact gI_uI_ne (by omega)
              have x2 : ∀ b, b ≠ 2 → gI (uI (I2, me.2) t 2 (nI (skB F n p'))) t b = gI me t b := fun b hb => by rw [gI_uI_nb hb]; exact b2 b hb
              refine ld_i2 (np := 42) dX4_readCoats_41 rfl ?_
              refine wl_bipush (np := 44) (v := 6) dX4_readCoats_42 rfl (by decide) ?_
              refine wl_icmp_eq (np := 47) (tg := 65) dX4_readCoats_44 rfl rfl (fun c_44 => ?_) (fun c_44 => ?_)
              · rw [show (6 : Int32) = nI 6 from rfl, nI_eq (by omega) (by decide)] at c_44
                rw [if_pos (by omega)] at hrd
                exact endF _ _ _ rfl w2 x2 v2 hrd.symm
              · rw [show (6 : Int32) = nI 6 from rfl, nI_eq (by omega) (by decide)] at c_44
                rw [if_neg (by omega)] at hrd
                have hF3 : gI (uI (I2, me.2) t 2 (nI (skB F n p'))) (t + 1) = F := by rw [gI_uI_ne (by omega)]; exact hF2
                have hsl := skS_le (f := F) (n := n) (p := skB F n p') (c := 59) (by omega) (by decide)
                refine ld_a0 (np := 48) dX4_readCoats_47 rfl ?_
                refine wl_bipush (np := 50) (v := 59) dX4_readCoats_48 rfl (by decide) ?_
                refine ciV_1 (np := 53) dX4_readCoats_50 rfl lk_X4_41 (by assumption) (Nat.le_of_ble_eq_true rfl) (by omega) (Nat.le_refl _) (Nat.le_refl _) (c_skipIf 59 (hqs.of rfl) ((x2 1 (by omega)).trans hl) hn v2 (by omega) (by omega)) (fun x_50 m_50 h_50 => ?_)
                obtain ⟨rfl, q_50⟩ := h_50
                have q_50 := q_50.symm
                subst q_50
                refine wl_if_ne (np := 56) (tg := 59) dX4_readCoats_53 rfl rfl (fun c_53 => ?_) (fun c_53 => ?_)
                · rw [hF3] at c_53 ⊢
                  have hb : (skS F n (skB F n p') 59).2 = true := by
                    cases hb : (skS F n (skB F n p') 59).2 with
                    | true => rfl
                    | false => rw [hb] at c_53; exact absurd rfl c_53
                  generalize hS : skS F n (skB F n p') 59 = S1 at hrd hb hsl ⊢
                  obtain ⟨p3, b3⟩ := S1
                  dsimp only at hb
                  subst hb
                  rw [uI_uI]
                  refine inc_2 (np := 62) (v := _ + 1) dX4_readCoats_59 rfl rfl (by decide) rfl ?_
                  refine wl_goto (tg := 12) dX4_readCoats_62 rfl ?_
                  rw [← nI_succ, show 7 - (k + 1) + 1 = 7 - k by omega]
                  refine ih _ p3 (acc ++ [co]) (by omega) rfl (fun a ha => ?_) (fun b hb => ?_) (gI_uI_self _ _ _ _) hsl (hacc2.fr (fun a h1 h2 => ?_)) (by simp; omega) hrd (by omega)
                  · rw [← o2 a ha]; exact gI_uI_ne (by omega)
                  · rw [gI_uI_nb hb]; exact b2 b hb
                  · exact gI_uI_ne (by omega)
                · rw [hF3] at c_53 ⊢
                  have hb : (skS F n (skB F n p') 59).2 = false := by
                    cases hb : (skS F n (skB F n p') 59).2 with
                    | false => rfl
                    | true => rw [hb] at c_53; exact absurd c_53 (by decide)
                  generalize hS : skS F n (skB F n p') 59 = S1 at hrd hb hsl ⊢
                  obtain ⟨p3, b3⟩ := S1
                  dsimp only at hb
                  subst hb
                  rw [uI_uI]
                  refine wl_goto (tg := 65) dX4_readCoats_56 rfl ?_
                  refine endF _ p3 _ rfl (fun a ha => ?_) (fun b hb => ?_) (gI_uI_self _ _ _ _) hrd.symm
                  · rw [← o2 a ha]; exact gI_uI_ne (by omega)
                  · rw [gI_uI_nb hb]; exact b2 b hb
            · rw [hF2] at c_33 ⊢
              have hge : n ≤ skB F n p' := Classical.byContradiction fun h => by
                have h4 : nbI F n (skB F n p') = F (skB F n p') := if_pos (by omega)
                rw [h4] at c_33
                exact c_33 (Int32.le_trans (by decide) (hok (skB F n p') (by omega)).1)
              rw [if_pos hge] at hrd
              refine ld_a1 (np := 37) dX4_readCoats_36 rfl ?_
              refine wl_geti (np := 40) dX4_readCoats_37 rfl fl_X4_28 (by decide) (by assumption) ?_
              refine wi_ret dX4_readCoats_40 rfl (rfl) (Nat.le_refl _) (Nat.le_refl _) ?_
              rw [← hrd]
              refine ⟨⟨rfl, fun a ha => ?_⟩, fun b hb => ?_, ?_, ?_⟩
              · rw [← o2 a ha]; exact gI_uI_ne (by omega)
              · rw [gI_uI_nb hb]; exact b2 b hb
              · rw [gI_uI_ne (by omega)]; exact hacc2.1
              · exact hacc2.fr (fun a h1 h2 => gI_uI_ne (by omega))
          · exact absurd c_23 (by decide)
  refine CI.mk (L := [.ref t, .ref q, .float 0]) (by decide) (Nat.le_of_ble_eq_true rfl) rfl ?_
  refine ld_a0 (np := 1) dX4_readCoats_0 rfl ?_
  refine wl_iconst (np := 2) (v := 0) dX4_readCoats_1 rfl (rfl) ?_
  refine wl_puti (np := 5) dX4_readCoats_2 rfl fl_X4_25 nf_4_2 rfl (by assumption) ?_
  refine ld_a1 (np := 6) dX4_readCoats_5 rfl ?_
  refine wl_iconst (np := 7) (v := 0) dX4_readCoats_6 rfl (rfl) ?_
  refine wl_puti (np := 10) dX4_readCoats_7 rfl fl_X4_28 nf_1_5 rfl (by assumption) ?_
  refine wl_iconst (np := 11) (v := 1) dX4_readCoats_10 rfl (rfl) ?_
  refine st_i2 (np := 12) dX4_readCoats_11 rfl (by decide) rfl ?_
  refine key 6 _ 0 [] (by omega) rfl (fun a ha => ?_) (fun b hb => ?_) ?_ (by omega) ⟨gI_uI_self _ _ _ _, by simp, fun c co h => by simp at h⟩ rfl rfl (by omega)
  · exact (gI_uI_ne (by omega)).trans (gI_uI_ne (by omega))
  · rw [gI_uI, if_neg (by omega), gI_uI_nb hb]
  · rw [gI_uI, if_neg (by omega)]; exact gI_uI_self _ _ _ _
end TAPE3
