theorem uI_uI (me : Mem) (k i : Nat) (x y : Int32) : uI (uI me k i x) k i y = uI me k i y := by
  apply mem_ext
  · intro a b
    simp only [gI_uI]
    by_cases hh : a = k ∧ b = i
    · rw [if_pos hh, if_pos hh]
    · rw [if_neg hh, if_neg hh, if_neg hh]
  · rfl
theorem gI_uI_ne {me : Mem} {k i a : Nat} {x : Int32} (h : a ≠ k) : gI (uI me k i x) a = gI me a := funext fun b => by rw [gI_uI, if_neg (fun q => h q.1)]
theorem gI_uI_self (me : Mem) (k i : Nat) (x : Int32) : gI (uI me k i x) k i = x := by rw [gI_uI, if_pos ⟨rfl, rfl⟩]
theorem gI_uI_nb {me : Mem} {k i a b : Nat} {x : Int32} (h : b ≠ i) : gI (uI me k i x) a b = gI me a b := by rw [gI_uI, if_neg (fun q => h q.2)]
def ovI (o : Option Int32) : Int32 := o.getD (-1)
theorem numS_pos {f : Nat → Int32} {n p : Nat} {lo hi v : Int32} (h : (numS f n p lo hi).2 = some v) : lo ≤ v ∧ v ≤ hi := by
  unfold numS at h
  dsimp only at h
  split at h
  · rename_i hh
    cases h
    exact hh.2
  · cases h
theorem digS_pos {f : Nat → Int32} {n p : Nat} {v : Int32} (h : (digS f n p).2 = some v) : 1 ≤ v ∧ v ≤ 9 := by
  unfold digS at h
  dsimp only at h
  split at h
  · rename_i hh
    cases h
    obtain ⟨h1, h2⟩ := hh
    generalize nbI f n (skB f n p) = y at h1 h2 ⊢
    obtain ⟨j, hj, rfl⟩ := nI_of2 (x := y) (M := 57) (n := 57) rfl (Int32.not_lt.mpr (Int32.le_trans (by decide) h1)) h2
    have h1' : 49 ≤ j := (nI_leI (by decide) (by omega)).mp (show nI 49 ≤ nI j from h1)
    rw [show (48 : Int32) = nI 48 from rfl, pk_sub (by omega)]
    exact ⟨(show nI 1 ≤ _ from nI_le (by omega) (by omega)), (show _ ≤ nI 9 from nI_le (by omega) (by decide))⟩
  · cases h
/-- the coats of one, without the rest of him -/
def RepCs (me : Mem) (q : Nat) (cs : List Coat) : Prop := gI me q 5 = nI cs.length ∧ cs.length ≤ 8 ∧ ∀ c co, cs[c]? = some co → gI me (q + 1) c = co.1 ∧ gI me (q + 2) c = co.2.1 ∧ gI me (q + 3) c = co.2.2.1 ∧ gI me (q + 4) c = co.2.2.2
theorem RepCs.put {me : Mem} {q : Nat} {cs : List Coat} (h : RepCs me q cs) (hn : cs.length < 8) (co : Coat) : RepCs (putM me q cs.length co.1 co.2.1 co.2.2.1 co.2.2.2) q (cs ++ [co]) := by
  obtain ⟨h5, h6, h7⟩ := h
  refine ⟨?_, by simp; omega, fun c co' hc => ?_⟩
  · simp only [putM, List.length_append, List.length_cons, List.length_nil]
    rw [gI_uI_self]
  · by_cases hlt : c < cs.length
    · rw [List.getElem?_append_left hlt] at hc
      obtain ⟨g1, g2, g3, g4⟩ := h7 c co' hc
      refine ⟨?_, ?_, ?_, ?_⟩ <;> simp only [putM, gI_uI] <;> grind
    · rw [List.getElem?_append_right (by omega)] at hc
      have hz : c - cs.length < 1 := (List.getElem?_eq_some_iff.mp hc).1
      have hce : c = cs.length := by omega
      subst hce
      rw [Nat.sub_self] at hc
      cases hc
      refine ⟨?_, ?_, ?_, ?_⟩ <;> simp only [putM, gI_uI] <;> grind
theorem RepCs.fr {me m : Mem} {q : Nat} {cs : List Coat} (h : RepCs me q cs) (hf : ∀ a, q ≤ a → a < q + 6 → m.1 a = me.1 a) : RepCs m q cs := by
  have e : ∀ k b, k < 6 → gI m (q + k) b = gI me (q + k) b := fun k b hk => congrFun (hf (q + k) (by omega) (by omega)) b
  obtain ⟨h5, h6, h7⟩ := h
  refine ⟨(e 0 5 (by omega)).trans h5, h6, fun c co hc => ?_⟩
  obtain ⟨g1, g2, g3, g4⟩ := h7 c co hc
  exact ⟨(e 1 c (by omega)).trans g1, (e 2 c (by omega)).trans g2, (e 3 c (by omega)).trans g3, (e 4 c (by omega)).trans g4⟩
section TAPE2
variable {sh : List Shp} {me : Mem} {d t n p q : Nat}
set_option maxHeartbeats 4000000 in
set_option maxRecDepth 100000 in
theorem c_skipIf (c : Int32) (hq : isT sh me t) (hl : gI me t 1 = nI n) (hn : n ≤ 80) (hp : gI me t 2 = nI p) (hpn : p ≤ n) (hd : 1 ≤ d) : CI d mX4_skipIf sh [.ref t, .int c] me (fun x m => x = (if (skS (gI me (t + 1)) n p c).2 = true then 1 else 0) ∧ m = uI me t 2 (nI (skS (gI me (t + 1)) n p c).1)) := by
  have hqs := hq
  obtain ⟨s0, s1, r0⟩ := hq
  refine CI.mk (L := [.ref t, .int c]) (by decide) (Nat.le_of_ble_eq_true rfl) rfl ?_
  refine ld_a0 (np := 1) dX4_skipIf_0 rfl ?_
  refine ciV_0 (np := 4) dX4_skipIf_1 rfl lk_X4_37 (by assumption) (Nat.le_of_ble_eq_true rfl) (by omega) (Nat.le_refl _) (Nat.le_refl _) (c_nextByte hqs hl hn hp hpn) (fun x_1 m_1 h_1 => ?_)
  obtain ⟨rfl, q_1⟩ := h_1
  have q_1 := q_1.symm
  subst q_1
  refine ld_i1 (np := 5) dX4_skipIf_4 rfl ?_
  refine wl_icmp_eq (np := 8) (tg := 10) dX4_skipIf_5 rfl rfl (fun c_5 => ?_) (fun c_5 => ?_)
  · refine ld_a0 (np := 11) dX4_skipIf_10 rfl ?_
    refine wl_dup (np := 12) dX4_skipIf_11 rfl rfl ?_
    refine wl_geti (np := 15) dX4_skipIf_12 rfl fl_X4_25 (by decide) (by assumption) ?_
    refine wl_iconst (np := 16) (v := 1) dX4_skipIf_15 rfl (rfl) ?_
    refine wl_iadd (np := 17) dX4_skipIf_16 rfl ?_
    refine wl_puti (np := 20) dX4_skipIf_17 rfl fl_X4_25 nf_4_2 rfl (by assumption) ?_
    refine wl_iconst (np := 21) (v := 1) dX4_skipIf_20 rfl (rfl) ?_
    refine wi_ret dX4_skipIf_21 rfl (by decide) (Nat.le_refl _) (Nat.le_refl _) ?_
    rw [gI_uI_self, ← nI_succ, uI_uI]
    unfold skS
    dsimp only
    rw [if_pos c_5]
    exact ⟨rfl, rfl⟩
  · refine wl_iconst (np := 9) (v := 0) dX4_skipIf_8 rfl (rfl) ?_
    refine wi_ret dX4_skipIf_9 rfl (by decide) (Nat.le_refl _) (Nat.le_refl _) ?_
    unfold skS
    dsimp only
    rw [if_neg c_5]
    exact ⟨rfl, rfl⟩
set_option maxHeartbeats 4000000 in
set_option maxRecDepth 100000 in
theorem c_readDigit (hq : isT sh me t) (hl : gI me t 1 = nI n) (hn : n ≤ 80) (hp : gI me t 2 = nI p) (hpn : p ≤ n) (hd : 1 ≤ d) : CI d mX4_readDigit sh [.ref t] me (fun x m => x = ovI (digS (gI me (t + 1)) n p).2 ∧ m = uI me t 2 (nI (digS (gI me (t + 1)) n p).1)) := by
  have hqs := hq
  obtain ⟨s0, s1, r0⟩ := hq
  refine CI.mk (L := [.ref t, .float 0]) (by decide) (Nat.le_of_ble_eq_true rfl) rfl ?_
  refine ld_a0 (np := 1) dX4_readDigit_0 rfl ?_
  refine ciV_0 (np := 4) dX4_readDigit_1 rfl lk_X4_37 (by assumption) (Nat.le_of_ble_eq_true rfl) (by omega) (Nat.le_refl _) (Nat.le_refl _) (c_nextByte hqs hl hn hp hpn) (fun x_1 m_1 h_1 => ?_)
  obtain ⟨rfl, q_1⟩ := h_1
  have q_1 := q_1.symm
  subst q_1
  refine st_i1 (np := 5) dX4_readDigit_4 rfl (by decide) rfl ?_
  refine ld_i1 (np := 6) dX4_readDigit_5 rfl ?_
  refine wl_bipush (np := 8) (v := 49) dX4_readDigit_6 rfl (by decide) ?_
  refine wl_bipush (np := 10) (v := 57) dX4_readDigit_8 rfl (by decide) ?_
  refine ciSN_3 (np := 13) dX4_readDigit_10 rfl lk_X4_17 (Nat.le_of_ble_eq_true rfl) (by omega) (Nat.le_refl _) (Nat.le_refl _) (c_isWithin _ _ _) (fun x_10 m_10 h_10 => ?_)
  obtain ⟨rfl, q_10⟩ := h_10
  have q_10 := q_10.symm
  subst q_10
  refine wl_if_ne (np := 16) (tg := 18) dX4_readDigit_13 rfl rfl (fun c_13 => ?_) (fun c_13 => ?_)
  · have hz : 49 ≤ nbI (gI me (t + 1)) n (skB (gI me (t + 1)) n p) ∧ nbI (gI me (t + 1)) n (skB (gI me (t + 1)) n p) ≤ 57 := Classical.byContradiction fun h => c_13 (if_neg h)
    refine ld_a0 (np := 19) dX4_readDigit_18 rfl ?_
    refine wl_dup (np := 20) dX4_readDigit_19 rfl rfl ?_
    refine wl_geti (np := 23) dX4_readDigit_20 rfl fl_X4_25 (by decide) (by assumption) ?_
    refine wl_iconst (np := 24) (v := 1) dX4_readDigit_23 rfl (rfl) ?_
    refine wl_iadd (np := 25) dX4_readDigit_24 rfl ?_
    refine wl_puti (np := 28) dX4_readDigit_25 rfl fl_X4_25 nf_4_2 rfl (by assumption) ?_
    refine ld_i1 (np := 29) dX4_readDigit_28 rfl ?_
    refine wl_bipush (np := 31) (v := 48) dX4_readDigit_29 rfl (by decide) ?_
    refine wl_isub (np := 32) dX4_readDigit_31 rfl ?_
    refine wi_ret dX4_readDigit_32 rfl (rfl) (Nat.le_refl _) (Nat.le_refl _) ?_
    rw [gI_uI_self, ← nI_succ, uI_uI]
    unfold digS
    dsimp only
    rw [if_pos hz]
    exact ⟨rfl, rfl⟩
  · have hz : ¬ (49 ≤ nbI (gI me (t + 1)) n (skB (gI me (t + 1)) n p) ∧ nbI (gI me (t + 1)) n (skB (gI me (t + 1)) n p) ≤ 57) := fun h => absurd ((if_pos h).symm.trans c_13) (by decide)
    refine wl_iconst (np := 17) (v := -1) dX4_readDigit_16 rfl (rfl) ?_
    refine wi_ret dX4_readDigit_17 rfl (rfl) (Nat.le_refl _) (Nat.le_refl _) ?_
    unfold digS
    dsimp only
    rw [if_neg hz]
    exact ⟨rfl, rfl⟩
set_option maxHeartbeats 4000000 in
set_option maxRecDepth 100000 in
theorem c_readNumber (lo hi : Int32) (hq : isT sh me t) (hl : gI me t 1 = nI n) (hn : n ≤ 80) (hp : gI me t 2 = nI p) (hpn : p ≤ n) (hd : 1 ≤ d) : CI d mX4_readNumber sh [.ref t, .int lo, .int hi] me (fun x m => x = ovI (numS (gI me (t + 1)) n p lo hi).2 ∧ m = uI me t 2 (nI (numS (gI me (t + 1)) n p lo hi).1)) := by
  have hqs := hq
  obtain ⟨s0, s1, r0⟩ := hq
  have hsk := skB_le (f := gI me (t + 1)) hpn
  generalize hp1 : skB (gI me (t + 1)) n p = p1 at hsk
  have key : ∀ fuel i v, n - i < fuel → p1 ≤ i → i ≤ n → dgF (gI me (t + 1)) (n - i) i v = dgF (gI me (t + 1)) (n - p1) p1 0 → Wa mX4_readNumber (0, fun _ => 0) d 0 0 sh.length (PI sh (fun x m => x = ovI (numS (gI me (t + 1)) n p lo hi).2 ∧ m = uI me t 2 (nI (numS (gI me (t + 1)) n p lo hi).1))) 13 [.ref t, .int lo, .int hi, .int (nI p1), .int v] [] sh (uI me t 2 (nI i)) 0 0 := by
    intro fuel
    induction fuel with
    | zero => intro i v h; omega
    | succ fuel ih =>
      intro i v hi1 hpi hin hdg
      have f1 : gI (uI me t 2 (nI i)) t 1 = nI n := by rw [gI_uI_nb (by omega)]; exact hl
      have f2 : gI (uI me t 2 (nI i)) t 2 = nI i := gI_uI_self _ _ _ _
      have f3 : gI (uI me t 2 (nI i)) (t + 1) = gI me (t + 1) := gI_uI_ne (by omega)
      have fin : dgF (gI me (t + 1)) (n - i) i v = (i, v) → Wa mX4_readNumber (0, fun _ => 0) d 0 0 sh.length (PI sh (fun x m => x = ovI (numS (gI me (t + 1)) n p lo hi).2 ∧ m = uI me t 2 (nI (numS (gI me (t + 1)) n p lo hi).1))) 81 [.ref t, .int lo, .int hi, .int (nI p1), .int v] [] sh (uI me t 2 (nI i)) 0 0 := by
        intro hend
        rw [hend] at hdg
        have en : numS (gI me (t + 1)) n p lo hi = if p1 < i ∧ lo ≤ v ∧ v ≤ hi then (i, some v) else (p1, none) := by
          unfold numS
          dsimp only
          rw [hp1, ← hdg]
        rw [en]
        refine ld_a0 (np := 82) dX4_readNumber_81 rfl ?_
        refine wl_geti (np := 85) dX4_readNumber_82 rfl fl_X4_25 (by decide) (by assumption) ?_
        refine ld_i3 (np := 86) dX4_readNumber_85 rfl ?_
        refine wl_icmp_le (np := 89) (tg := 102) dX4_readNumber_86 rfl rfl (fun c_86 => ?_) (fun c_86 => ?_)
        · rw [f2, nI_le_iff (by omega) (by omega)] at c_86
          refine ld_a0 (np := 103) dX4_readNumber_102 rfl ?_
          refine ld_i3 (np := 104) dX4_readNumber_103 rfl ?_
          refine wl_puti (np := 107) dX4_readNumber_104 rfl fl_X4_25 nf_4_2 rfl (by assumption) ?_
          refine wl_iconst (np := 108) (v := -1) dX4_readNumber_107 rfl (rfl) ?_
          refine wi_ret dX4_readNumber_108 rfl (rfl) (Nat.le_refl _) (Nat.le_refl _) ?_
          rw [if_neg (by omega), uI_uI]
          exact ⟨rfl, rfl⟩
        · rw [f2, nI_le_iff (by omega) (by omega)] at c_86
          refine ld_i4 (np := 91) dX4_readNumber_89 rfl ?_
          refine ld_i1 (np := 92) dX4_readNumber_91 rfl ?_
          refine ld_i2 (np := 93) dX4_readNumber_92 rfl ?_
          refine ciSN_3 (np := 96) dX4_readNumber_93 rfl lk_X4_17 (Nat.le_of_ble_eq_true rfl) (by omega) (Nat.le_refl _) (Nat.le_refl _) (c_isWithin _ _ _) (fun x_93 m_93 h_93 => ?_)
          obtain ⟨rfl, q_93⟩ := h_93
          have q_93 := q_93.symm
          subst q_93
          refine wl_if_eq (np := 99) (tg := 102) dX4_readNumber_96 rfl rfl (fun c_96 => ?_) (fun c_96 => ?_)
          · have hz : ¬ (lo ≤ v ∧ v ≤ hi) := fun h => absurd ((if_pos h).symm.trans c_96) (by decide)
            refine ld_a0 (np := 103) dX4_readNumber_102 rfl ?_
            refine ld_i3 (np := 104) dX4_readNumber_103 rfl ?_
            refine wl_puti (np := 107) dX4_readNumber_104 rfl fl_X4_25 nf_4_2 rfl (by assumption) ?_
            refine wl_iconst (np := 108) (v := -1) dX4_readNumber_107 rfl (rfl) ?_
            refine wi_ret dX4_readNumber_108 rfl (rfl) (Nat.le_refl _) (Nat.le_refl _) ?_
            rw [if_neg (fun h => hz h.2), uI_uI]
            exact ⟨rfl, rfl⟩
          · have hz : lo ≤ v ∧ v ≤ hi := Classical.byContradiction fun h => c_96 (if_neg h)
            refine ld_i4 (np := 101) dX4_readNumber_99 rfl ?_
            refine wi_ret dX4_readNumber_101 rfl (rfl) (Nat.le_refl _) (Nat.le_refl _) ?_
            rw [if_pos ⟨by omega, hz⟩]
            exact ⟨rfl, rfl⟩
      refine ld_a0 (np := 14) dX4_readNumber_13 rfl ?_
      refine wl_geti (np := 17) dX4_readNumber_14 rfl fl_X4_25 (by decide) (by assumption) ?_
      refine ld_a0 (np := 18) dX4_readNumber_17 rfl ?_
      refine wl_geti (np := 21) dX4_readNumber_18 rfl fl_X4_21 (by decide) (by assumption) ?_
      refine wl_icmp_ge (np := 24) (tg := 81) dX4_readNumber_21 rfl rfl (fun c_21 => ?_) (fun c_21 => ?_)
      · rw [f1, f2, nI_le_iff (by omega) (by omega)] at c_21
        exact fin (by rw [show n - i = 0 by omega]; rfl)
      · rw [f1, f2, nI_le_iff (by omega) (by omega)] at c_21
        have hia : inA sh (t + 1) (gI (uI me t 2 (nI i)) t 2) := by rw [f2]; exact inA_n s1 (by omega) (by decide)
        obtain ⟨kk, hkk⟩ : ∃ kk, n - i = kk + 1 := ⟨n - i - 1, by omega⟩
        refine ld_a0 (np := 25) dX4_readNumber_24 rfl ?_
        refine wl_getr (np := 28) dX4_readNumber_25 rfl fl_X4_9 rfl (by assumption) (by assumption) ?_
        refine ld_a0 (np := 29) dX4_readNumber_28 rfl ?_
        refine wl_geti (np := 32) dX4_readNumber_29 rfl fl_X4_25 (by decide) (by assumption) ?_
        refine wl_iaload (np := 33) dX4_readNumber_32 rfl (hia) ?_
        refine wl_bipush (np := 35) (v := 48) dX4_readNumber_33 rfl (by decide) ?_
        refine wl_bipush (np := 37) (v := 57) dX4_readNumber_35 rfl (by decide) ?_
        refine ciSN_3 (np := 40) dX4_readNumber_37 rfl lk_X4_17 (Nat.le_of_ble_eq_true rfl) (by omega) (Nat.le_refl _) (Nat.le_refl _) (c_isWithin _ _ _) (fun x_37 m_37 h_37 => ?_)
        obtain ⟨rfl, q_37⟩ := h_37
        have q_37 := q_37.symm
        subst q_37
        refine wl_if_eq (np := 43) (tg := 81) dX4_readNumber_40 rfl rfl (fun c_40 => ?_) (fun c_40 => ?_)
        · rw [f2, nI_clamp (by omega), f3] at c_40
          have hz : ¬ (48 ≤ gI me (t + 1) i ∧ gI me (t + 1) i ≤ 57) := fun h => absurd ((if_pos h).symm.trans c_40) (by decide)
          exact fin (by rw [hkk]; exact if_neg hz)
        · rw [f2, nI_clamp (by omega), f3] at c_40
          have hz : 48 ≤ gI me (t + 1) i ∧ gI me (t + 1) i ≤ 57 := Classical.byContradiction fun h => c_40 (if_neg h)
          refine ld_i4 (np := 45) dX4_readNumber_43 rfl ?_
          refine wl_bipush (np := 47) (v := 10) dX4_readNumber_45 rfl (by decide) ?_
          refine wl_imul (np := 48) dX4_readNumber_47 rfl ?_
          refine ld_a0 (np := 49) dX4_readNumber_48 rfl ?_
          refine wl_getr (np := 52) dX4_readNumber_49 rfl fl_X4_9 rfl (by assumption) (by assumption) ?_
          refine ld_a0 (np := 53) dX4_readNumber_52 rfl ?_
          refine wl_geti (np := 56) dX4_readNumber_53 rfl fl_X4_25 (by decide) (by assumption) ?_
          refine wl_iaload (np := 57) dX4_readNumber_56 rfl (hia) ?_
          refine wl_iadd (np := 58) dX4_readNumber_57 rfl ?_
          refine wl_bipush (np := 60) (v := 48) dX4_readNumber_58 rfl (by decide) ?_
          refine wl_isub (np := 61) dX4_readNumber_60 rfl ?_
          refine wl_ldc (np := 63) dX4_readNumber_61 rfl wk_X4_59 ?_
          refine wl_min (np := 66) dX4_readNumber_63 rfl lk_X4_60 (Nat.le_of_ble_eq_true rfl) (by omega) (Nat.le_refl _) (Nat.le_refl _) ?_
          refine st_i4 (np := 68) dX4_readNumber_66 rfl (by decide) rfl ?_
          refine ld_a0 (np := 69) dX4_readNumber_68 rfl ?_
          refine wl_dup (np := 70) dX4_readNumber_69 rfl rfl ?_
          refine wl_geti (np := 73) dX4_readNumber_70 rfl fl_X4_25 (by decide) (by assumption) ?_
          refine wl_iconst (np := 74) (v := 1) dX4_readNumber_73 rfl (rfl) ?_
          refine wl_iadd (np := 75) dX4_readNumber_74 rfl ?_
          refine wl_puti (np := 78) dX4_readNumber_75 rfl fl_X4_25 nf_4_2 rfl (by assumption) ?_
          refine wl_goto (tg := 13) dX4_readNumber_78 rfl ?_
          rw [f2, nI_clamp (by omega), f3, ← nI_succ, uI_uI]
          refine ih (i + 1) _ (by omega) (by omega) (by omega) ?_
          rw [← hdg, hkk, show n - (i + 1) = kk by omega]
          exact (if_pos hz).symm
  refine CI.mk (L := [.ref t, .int lo, .int hi, .float 0, .float 0]) (by decide) (Nat.le_of_ble_eq_true rfl) rfl ?_
  refine ld_a0 (np := 1) dX4_readNumber_0 rfl ?_
  refine ciV_0 (np := 4) dX4_readNumber_1 rfl lk_X4_37 (by assumption) (Nat.le_of_ble_eq_true rfl) (by omega) (Nat.le_refl _) (Nat.le_refl _) (c_nextByte hqs hl hn hp hpn) (fun x_1 m_1 h_1 => ?_)
  obtain ⟨rfl, q_1⟩ := h_1
  have q_1 := q_1.symm
  subst q_1
  refine wl_pop (np := 5) dX4_readNumber_4 rfl rfl ?_
  refine ld_a0 (np := 6) dX4_readNumber_5 rfl ?_
  refine wl_geti (np := 9) dX4_readNumber_6 rfl fl_X4_25 (by decide) (by assumption) ?_
  refine st_i3 (np := 10) dX4_readNumber_9 rfl (by decide) rfl ?_
  refine wl_iconst (np := 11) (v := 0) dX4_readNumber_10 rfl (rfl) ?_
  refine st_i4 (np := 13) dX4_readNumber_11 rfl (by decide) rfl ?_
  rw [hp1, gI_uI_self]
  exact key (n + 1) p1 0 (by omega) (by omega) (by omega) rfl
end TAPE2
