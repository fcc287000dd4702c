/-! bits of small sets -/
theorem bit_all : ∀ m, m < 64 → ∀ c, c < 6 → (((nI m >>> (nI c &&& 31)) &&& 1 = 0) ↔ m.testBit c = false) := by decide +kernel
theorem inn_all : ∀ m, m < 64 → ∀ c, c < 6 → ((nI m &&& ((1 <<< (nI c &&& 31)) - 1) = 0) ↔ innN m c = true) := by decide +kernel
theorem out_all : ∀ m, m < 64 → ∀ c, c < 6 → ((nI m >>> ((nI c + 1) &&& 31) = 0) ↔ outN m c = true) := by decide +kernel
theorem rem_all : ∀ m, m < 64 → ∀ c, c < 6 → m.testBit c = true → nI m &&& ((1 <<< (nI c &&& 31)) ^^^ (-1)) = nI (m - 2 ^ c) := by decide +kernel
theorem ws_all : ∀ n, n ≤ 8 → wsI n = nI (2 ^ n - 1) := by decide +kernel
theorem may_iff {off : Int32} {m c : Nat} (hm : m < 64) (hc : c < 6) : mayC off (nI m) (nI c) ↔ mayN off m c = true := by
  have h1 := inn_all m hm c hc
  have h2 := out_all m hm c hc
  unfold mayC mayN innerC outerC
  by_cases h0 : off = 0
  · rw [if_pos h0, if_pos h0]; exact h2
  · rw [if_neg h0, if_neg h0]
    by_cases h3 : off = 1
    · rw [if_pos h3, if_pos h3]; exact h1
    · rw [if_neg h3, if_neg h3, h1, h2]
      cases innN m c <;> cases outN m c <;> simp
def isPl (sh : List Shp) (me : Mem) (pl : Nat) : Prop := sh[pl]? = some (.inl 2) ∧ sh[pl + 1]? = some (.inr (3, 7)) ∧ (∀ i, i < 7 → sh[pl + 2 + i]? = some (.inr (0, 8))) ∧ sh[pl + 9]? = some (.inr (0, 6)) ∧ sh[pl + 10]? = some (.inr (0, 6)) ∧ gR me pl 0 = some (pl + 1) ∧ gR me pl 1 = some (pl + 9) ∧ gR me pl 2 = some (pl + 10) ∧ ∀ i, i < 7 → gR me (pl + 1) i = some (pl + 2 + i)
theorem isPl.of {sh : List Shp} {me m : Mem} {pl : Nat} (h : isPl sh me pl) (h2 : m.2 = me.2) : isPl sh m pl := by
  unfold isPl gR at *
  rw [h2]
  exact h
def grM (me : Mem) (q a : Nat) (set : Int32) (i : Nat) : Mem := (fun x b => if x = a ∧ b < i ∧ ¬ ((set >>> (nI b &&& 31)) &&& 1 = 0) then growI (me.1 a b) (me.1 (q + 3) b) else me.1 x b, me.2)
section PLAN1
variable {sh : List Shp} {me : Mem} {d q pl n : Nat}
set_option maxHeartbeats 4000000 in
set_option maxRecDepth 100000 in
theorem c_taxesOf (set : Int32) (hpl : isPl sh me pl) (hwho : gR me pl 3 = some q) (hq : isP sh me q) (hw : gI me q 5 = nI n) (hn : n ≤ 8) (hl : ∀ c, c < n → ∃ l, l < 5 ∧ gI me (q + 1) c = nI l) (hd : 1 ≤ d) : CI d mX2_taxesOf sh [.ref pl, .int set] me (fun x m => x = condSum set (taxF me q) n ∧ m = me) := by
  obtain ⟨p0, p1, p2, p3, p4, u0, u1, u2, u3⟩ := hpl
  obtain ⟨s0, s1, s2, s3, s4, s5, r0, r1, r2, r3, r4⟩ := hq
  have key : ∀ fuel i, n - i < fuel → i ≤ n → Wa mX2_taxesOf (0, fun _ => 0) d 0 0 sh.length (PI sh (fun x m => x = condSum set (taxF me q) n ∧ m = me)) 4 [.ref pl, .int set, .int (condSum set (taxF me q) i), .int (nI i)] [] sh me 0 0 := by
    intro fuel
    induction fuel with
    | zero => intro i h; omega
    | succ fuel ih =>
      intro i hi hin
      refine ld_i3 (np := 5) dX2_taxesOf_4 rfl ?_
      refine ld_a0 (np := 6) dX2_taxesOf_5 rfl ?_
      refine wl_getr (np := 9) dX2_taxesOf_6 rfl fl_X2_23 rfl (by assumption) (by assumption) ?_
      refine wl_geti (np := 12) dX2_taxesOf_9 rfl fl_X2_63 (by decide) (by assumption) ?_
      refine wl_icmp_ge (np := 15) (tg := 49) dX2_taxesOf_12 rfl rfl (fun c_12 => ?_) (fun c_12 => ?_)
      · rw [hw, nI_le_iff (by omega) (by omega)] at c_12
        refine ld_i2 (np := 50) dX2_taxesOf_49 rfl ?_
        refine wi_ret dX2_taxesOf_50 rfl (rfl) (Nat.le_refl _) (Nat.le_refl _) ?_
        rw [show i = n by omega]
        exact ⟨rfl, rfl⟩
      · rw [hw, nI_le_iff (by omega) (by omega)] at c_12
        refine ld_i1 (np := 16) dX2_taxesOf_15 rfl ?_
        refine ld_i3 (np := 17) dX2_taxesOf_16 rfl ?_
        refine ciSN_2 (np := 20) dX2_taxesOf_17 rfl lk_X2_66 (Nat.le_of_ble_eq_true rfl) (by omega) (Nat.le_refl _) (Nat.le_refl _) (c_isIn _ _) (fun x_17 m_17 h_17 => ?_)
        obtain ⟨rfl, q_17⟩ := h_17
        have q_17 := q_17.symm
        subst q_17
        refine wl_if_eq (np := 23) (tg := 43) dX2_taxesOf_20 rfl rfl (fun c_20 => ?_) (fun c_20 => ?_)
        · have hz : (set >>> (nI i &&& 31)) &&& 1 = 0 := Classical.byContradiction fun h => by rw [if_neg h] at c_20; exact absurd c_20 (by decide)
          have e1 : condSum set (taxF me q) (i + 1) = condSum set (taxF me q) i := if_pos hz
          refine inc_3 (np := 46) (v := _ + 1) dX2_taxesOf_43 rfl rfl (by decide) rfl ?_
          refine wl_goto (tg := 4) dX2_taxesOf_46 rfl ?_
          rw [← nI_succ, ← e1]
          exact ih (i + 1) (by omega) (by omega)
        · have hz : ¬ (set >>> (nI i &&& 31)) &&& 1 = 0 := fun h => by rw [if_pos h] at c_20; exact c_20 rfl
          have e1 : condSum set (taxF me q) (i + 1) = condSum set (taxF me q) i + taxF me q i := if_neg hz
          obtain ⟨l, hl5, el⟩ := hl i (by omega)
          have e2 : gI me (q + 1) (nI i).toNatClampNeg = nI l := by rw [nI_clamp (by omega)]; exact el
          refine ld_i2 (np := 24) dX2_taxesOf_23 rfl ?_
          refine ld_a0 (np := 25) dX2_taxesOf_24 rfl ?_
          refine wl_getr (np := 28) dX2_taxesOf_25 rfl fl_X2_23 rfl (by assumption) (by assumption) ?_
          refine wl_getr (np := 31) dX2_taxesOf_28 rfl fl_X2_101 rfl (by assumption) (by assumption) ?_
          refine ld_a0 (np := 32) dX2_taxesOf_31 rfl ?_
          refine wl_getr (np := 35) dX2_taxesOf_32 rfl fl_X2_23 rfl (by assumption) (by assumption) ?_
          refine wl_getr (np := 38) dX2_taxesOf_35 rfl fl_X2_104 rfl (by assumption) (by assumption) ?_
          refine ld_i3 (np := 39) dX2_taxesOf_38 rfl ?_
          refine wl_iaload (np := 40) dX2_taxesOf_39 rfl (inA_n s1 (by omega) (by decide)) ?_
          refine wl_iaload (np := 41) dX2_taxesOf_40 rfl (e2 ▸ inA_n s5 hl5 (by decide)) ?_
          refine wl_iadd (np := 42) dX2_taxesOf_41 rfl ?_
          refine st_i2 (np := 43) dX2_taxesOf_42 rfl (by decide) rfl ?_
          refine inc_3 (np := 46) (v := _ + 1) dX2_taxesOf_43 rfl rfl (by decide) rfl ?_
          refine wl_goto (tg := 4) dX2_taxesOf_46 rfl ?_
          rw [nI_clamp (by omega), ← nI_succ]
          have e3 : condSum set (taxF me q) i + gI me (q + 5) (gI me (q + 1) i).toNatClampNeg = condSum set (taxF me q) (i + 1) := e1.symm
          rw [e3]
          exact ih (i + 1) (by omega) (by omega)
  refine CI.mk (L := [.ref pl, .int set, .float 0, .float 0]) (by decide) (Nat.le_of_ble_eq_true rfl) rfl ?_
  refine wl_iconst (np := 1) (v := 0) dX2_taxesOf_0 rfl (rfl) ?_
  refine st_i2 (np := 2) dX2_taxesOf_1 rfl (by decide) rfl ?_
  refine wl_iconst (np := 3) (v := 0) dX2_taxesOf_2 rfl (rfl) ?_
  refine st_i3 (np := 4) dX2_taxesOf_3 rfl (by decide) rfl ?_
  exact key (n + 1) 0 (by omega) (by omega)
set_option maxHeartbeats 4000000 in
set_option maxRecDepth 100000 in
theorem c_growAmounts {a : Nat} (set : Int32) (hpl : isPl sh me pl) (hwho : gR me pl 3 = some q) (hq : isP sh me q) (ha : sh[a]? = some (.inr (0, 8))) (hqa : q + 6 ≤ a) (hw : gI me q 5 = nI n) (hn : n ≤ 8) (hd : 2 ≤ d) : CV d mX2_growAmounts sh [.ref pl, .ref a, .int set] me (fun m => m = grM me q a set n) := by
  obtain ⟨p0, p1, p2, p3, p4, u0, u1, u2, u3⟩ := hpl
  obtain ⟨s0, s1, s2, s3, s4, s5, r0, r1, r2, r3, r4⟩ := hq
  have gg : ∀ i x b, x ≠ a → gI (grM me q a set i) x b = gI me x b := fun i x b h => by
    simp only [grM, g_def, g_raw]; rw [if_neg (fun hh => h hh.1)]
  have ga : ∀ i, gI (grM me q a set i) a i = gI me a i := fun i => by
    simp only [grM, g_def, g_raw]; rw [if_neg (fun hh => Nat.lt_irrefl i hh.2.1)]
  have key : ∀ fuel i, n - i < fuel → i ≤ n → Wa mX2_growAmounts (0, fun _ => 0) d 0 0 sh.length (PV sh (fun m => m = grM me q a set n)) 2 [.ref pl, .ref a, .int set, .int (nI i)] [] sh (grM me q a set i) 0 0 := by
    intro fuel
    induction fuel with
    | zero => intro i h; omega
    | succ fuel ih =>
      intro i hi hin
      refine ld_i3 (np := 3) dX2_growAmounts_2 rfl ?_
      refine ld_a0 (np := 4) dX2_growAmounts_3 rfl ?_
      refine wl_getr (np := 7) dX2_growAmounts_4 rfl fl_X2_23 rfl (by assumption) (by assumption) ?_
      refine wl_geti (np := 10) dX2_growAmounts_7 rfl fl_X2_63 (by decide) (by assumption) ?_
      refine wl_icmp_ge (np := 13) (tg := 45) dX2_growAmounts_10 rfl rfl (fun c_10 => ?_) (fun c_10 => ?_)
      · rw [gg _ _ _ (by omega), hw, nI_le_iff (by omega) (by omega)] at c_10
        refine wv_ret dX2_growAmounts_45 rfl (Nat.le_refl _) (Nat.le_refl _) ?_
        rw [show i = n by omega]
      · rw [gg _ _ _ (by omega), hw, nI_le_iff (by omega) (by omega)] at c_10
        refine ld_i2 (np := 14) dX2_growAmounts_13 rfl ?_
        refine ld_i3 (np := 15) dX2_growAmounts_14 rfl ?_
        refine ciSN_2 (np := 18) dX2_growAmounts_15 rfl lk_X2_66 (Nat.le_of_ble_eq_true rfl) (by omega) (Nat.le_refl _) (Nat.le_refl _) (c_isIn _ _) (fun x_15 m_15 h_15 => ?_)
        obtain ⟨rfl, q_15⟩ := h_15
        have q_15 := q_15.symm
        subst q_15
        refine wl_if_eq (np := 21) (tg := 39) dX2_growAmounts_18 rfl rfl (fun c_18 => ?_) (fun c_18 => ?_)
        · have hz : (set >>> (nI i &&& 31)) &&& 1 = 0 := Classical.byContradiction fun h => by rw [if_neg h] at c_18; exact absurd c_18 (by decide)
          have e1 : grM me q a set (i + 1) = grM me q a set i := by
            apply mem_ext
            · intro x b
              simp only [grM, g_def, g_raw]
              by_cases hx : x = a
              · by_cases hb : b = i
                · subst hb
                  rw [if_neg (fun hh => hh.2.2 hz), if_neg (fun hh => hh.2.2 hz)]
                · by_cases hlt : b < i
                  · simp only [hx, hlt, show b < i + 1 by omega]
                  · rw [if_neg (fun hh => by omega), if_neg (fun hh => hlt hh.2.1)]
              · rw [if_neg (fun hh => hx hh.1), if_neg (fun hh => hx hh.1)]
            · rfl
          refine inc_3 (np := 42) (v := _ + 1) dX2_growAmounts_39 rfl rfl (by decide) rfl ?_
          refine wl_goto (tg := 2) dX2_growAmounts_42 rfl ?_
          rw [← nI_succ, ← e1]
          exact ih (i + 1) (by omega) (by omega)
        · have hz : ¬ (set >>> (nI i &&& 31)) &&& 1 = 0 := fun h => by rw [if_pos h] at c_18; exact c_18 rfl
          refine ld_a1 (np := 22) dX2_growAmounts_21 rfl ?_
          refine ld_i3 (np := 23) dX2_growAmounts_22 rfl ?_
          refine ld_a1 (np := 24) dX2_growAmounts_23 rfl ?_
          refine ld_i3 (np := 25) dX2_growAmounts_24 rfl ?_
          refine wl_iaload (np := 26) dX2_growAmounts_25 rfl (inA_n ha (by omega) (by decide)) ?_
          refine ld_a0 (np := 27) dX2_growAmounts_26 rfl ?_
          refine wl_getr (np := 30) dX2_growAmounts_27 rfl fl_X2_23 rfl (by assumption) (by assumption) ?_
          refine wl_getr (np := 33) dX2_growAmounts_30 rfl fl_X2_107 rfl (by assumption) (by assumption) ?_
          refine ld_i3 (np := 34) dX2_growAmounts_33 rfl ?_
          refine wl_iaload (np := 35) dX2_growAmounts_34 rfl (inA_n s3 (by omega) (by decide)) ?_
          refine ciSN_2 (np := 38) dX2_growAmounts_35 rfl lk_X2_110 (Nat.le_of_ble_eq_true rfl) (by omega) (Nat.le_refl _) (Nat.le_refl _) (c_amountNextDay _ _ (by omega)) (fun x_35 m_35 h_35 => ?_)
          obtain ⟨rfl, q_35⟩ := h_35
          have q_35 := q_35.symm
          subst q_35
          refine wl_iastore (np := 39) dX2_growAmounts_38 rfl (inA_n ha (by omega) (by decide)) ?_
          refine inc_3 (np := 42) (v := _ + 1) dX2_growAmounts_39 rfl rfl (by decide) rfl ?_
          refine wl_goto (tg := 2) dX2_growAmounts_42 rfl ?_
          rw [nI_clamp (by omega), ga, gg _ _ _ (by omega), ← nI_succ]
          have e1 : uI (grM me q a set i) a i (growI (gI me a i) (gI me (q + 3) i)) = grM me q a set (i + 1) := by
            apply mem_ext
            · intro x b
              simp only [gI_uI, grM, g_def, g_raw]
              by_cases hx : x = a
              · by_cases hb : b = i
                · subst hb
                  rw [if_pos ⟨hx, rfl⟩, if_pos ⟨hx, by omega, hz⟩]
                · rw [if_neg (fun hh => hb hh.2)]
                  by_cases hlt : b < i
                  · simp only [hx, hlt, show b < i + 1 by omega]
                  · rw [if_neg (fun hh => hlt hh.2.1), if_neg (fun hh => by omega)]
              · rw [if_neg (fun hh => hx hh.1), if_neg (fun hh => hx hh.1), if_neg (fun hh => hx hh.1)]
            · rfl
          rw [e1]
          exact ih (i + 1) (by omega) (by omega)
  refine CV.mk (L := [.ref pl, .ref a, .int set, .float 0]) (by decide) (Nat.le_of_ble_eq_true rfl) rfl ?_
  refine wl_iconst (np := 1) (v := 0) dX2_growAmounts_0 rfl (rfl) ?_
  refine st_i3 (np := 2) dX2_growAmounts_1 rfl (by decide) rfl ?_
  have e0 : grM me q a set 0 = me := by
    apply mem_ext
    · intro x b
      simp only [grM, g_def, g_raw]
      rw [if_neg (fun hh => by omega)]
    · rfl
  have h := key (n + 1) 0 (by omega) (by omega)
  rw [e0] at h
  exact h
def keepPM (me : Mem) (pl k : Nat) (dy pd : Int32) : Mem := uA (uI (uI me pl 5 dy) pl 6 pd) (pl + 10) (va_cpy (gI me (pl + 9)) (gI me (pl + 10)) 0 0 k)
set_option maxHeartbeats 4000000 in
set_option maxRecDepth 100000 in
theorem c_P_keep {k : Nat} (dy pd : Int32) (hpl : isPl sh me pl) (hk : k ≤ 6) (hd : 2 ≤ d) : CV d mX2_keepIfBetter sh [.ref pl, .int (nI k), .int dy, .int pd] me (fun m => m = if dy < gI me pl 5 ∨ (dy = gI me pl 5 ∧ pd < gI me pl 6) then keepPM me pl k dy pd else me) := by
  obtain ⟨p0, p1, p2, p3, p4, u0, u1, u2, u3⟩ := hpl
  refine CV.mk (L := [.ref pl, .int (nI k), .int dy, .int pd]) (by decide) (Nat.le_of_ble_eq_true rfl) rfl ?_
  have k24 : (dy < gI me pl 5 ∨ (dy = gI me pl 5 ∧ pd < gI me pl 6)) → Wa mX2_keepIfBetter (0, fun _ => 0) d 0 0 sh.length (PV sh (fun m => m = if dy < gI me pl 5 ∨ (dy = gI me pl 5 ∧ pd < gI me pl 6) then keepPM me pl k dy pd else me)) 24 [.ref pl, .int (nI k), .int dy, .int pd] [] sh me 0 0 := by
    intro hh
    refine ld_a0 (np := 25) dX2_keepIfBetter_24 rfl ?_
    refine ld_i2 (np := 26) dX2_keepIfBetter_25 rfl ?_
    refine wl_puti (np := 29) dX2_keepIfBetter_26 rfl fl_X2_31 nf_2_5 rfl (by assumption) ?_
    refine ld_a0 (np := 30) dX2_keepIfBetter_29 rfl ?_
    refine ld_i3 (np := 31) dX2_keepIfBetter_30 rfl ?_
    refine wl_puti (np := 34) dX2_keepIfBetter_31 rfl fl_X2_34 nf_2_6 rfl (by assumption) ?_
    refine ld_a0 (np := 35) dX2_keepIfBetter_34 rfl ?_
    refine wl_getr (np := 38) dX2_keepIfBetter_35 rfl fl_X2_16 rfl (by assumption) (by assumption) ?_
    refine wl_iconst (np := 39) (v := 0) dX2_keepIfBetter_38 rfl (rfl) ?_
    refine ld_a0 (np := 40) dX2_keepIfBetter_39 rfl ?_
    refine wl_getr (np := 43) dX2_keepIfBetter_40 rfl fl_X2_20 rfl (by assumption) (by assumption) ?_
    refine wl_iconst (np := 44) (v := 0) dX2_keepIfBetter_43 rfl (rfl) ?_
    refine ld_i1 (np := 45) dX2_keepIfBetter_44 rfl ?_
    refine wl_copy (np := 48) dX2_keepIfBetter_45 rfl lk_X2_42 (Nat.le_of_ble_eq_true rfl) (by omega) (by assumption) (by assumption) (by decide) (by decide) (nI_pos (by omega)) (by rw [nI_clamp (by omega)]; show 0 + k ≤ 6; omega) (by rw [nI_clamp (by omega)]; show 0 + k ≤ 6; omega) ?_
    refine wv_ret dX2_keepIfBetter_48 rfl (Nat.le_refl _) (Nat.le_refl _) ?_
    rw [if_pos hh, nI_clamp (by omega)]
    unfold keepPM
    have e1 : gI (uI (uI me pl 5 dy) pl 6 pd) (pl + 9) = gI me (pl + 9) := (gI_uI_ne (by omega)).trans (gI_uI_ne (by omega))
    have e2 : gI (uI (uI me pl 5 dy) pl 6 pd) (pl + 10) = gI me (pl + 10) := (gI_uI_ne (by omega)).trans (gI_uI_ne (by omega))
    rw [e1, e2]
    rfl
  refine ld_i2 (np := 1) dX2_keepIfBetter_0 rfl ?_
  refine ld_a0 (np := 2) dX2_keepIfBetter_1 rfl ?_
  refine wl_geti (np := 5) dX2_keepIfBetter_2 rfl fl_X2_31 (by decide) (by assumption) ?_
  refine wl_icmp_lt (np := 8) (tg := 24) dX2_keepIfBetter_5 rfl rfl (fun c_5 => ?_) (fun c_5 => ?_)
  · exact k24 (Or.inl c_5)
  · refine ld_i2 (np := 9) dX2_keepIfBetter_8 rfl ?_
    refine ld_a0 (np := 10) dX2_keepIfBetter_9 rfl ?_
    refine wl_geti (np := 13) dX2_keepIfBetter_10 rfl fl_X2_31 (by decide) (by assumption) ?_
    refine wl_icmp_ne (np := 16) (tg := 48) dX2_keepIfBetter_13 rfl rfl (fun c_13 => ?_) (fun c_13 => ?_)
    · refine wv_ret dX2_keepIfBetter_48 rfl (Nat.le_refl _) (Nat.le_refl _) ?_
      rw [if_neg (fun hh => hh.elim (fun q => c_5 q) (fun q => c_13 q.1))]
    · refine ld_i3 (np := 17) dX2_keepIfBetter_16 rfl ?_
      refine ld_a0 (np := 18) dX2_keepIfBetter_17 rfl ?_
      refine wl_geti (np := 21) dX2_keepIfBetter_18 rfl fl_X2_34 (by decide) (by assumption) ?_
      refine wl_icmp_ge (np := 24) (tg := 48) dX2_keepIfBetter_21 rfl rfl (fun c_21 => ?_) (fun c_21 => ?_)
      · refine wv_ret dX2_keepIfBetter_48 rfl (Nat.le_refl _) (Nat.le_refl _) ?_
        rw [if_neg (fun hh => hh.elim (fun q => c_5 q) (fun q => Int32.not_lt.mpr c_21 q.2))]
      · exact k24 (Or.inr ⟨c_13, Int32.not_le.mp c_21⟩)
end PLAN1
