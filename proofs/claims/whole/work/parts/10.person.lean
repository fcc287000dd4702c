/-- a person's cells: the object, its five rows -/
def isP (sh : List Shp) (me : Mem) (q : Nat) : Prop := sh[q]? = some (.inl 1) ∧ sh[q + 1]? = some (.inr (0, 8)) ∧ sh[q + 2]? = some (.inr (0, 8)) ∧ sh[q + 3]? = some (.inr (0, 8)) ∧ sh[q + 4]? = some (.inr (0, 8)) ∧ sh[q + 5]? = some (.inr (0, 5)) ∧
  gR me q 0 = some (q + 1) ∧ gR me q 1 = some (q + 2) ∧ gR me q 2 = some (q + 3) ∧ gR me q 3 = some (q + 4) ∧ gR me q 4 = some (q + 5)
theorem isP.of {sh : List Shp} {me m : Mem} {q : Nat} (h : isP sh me q) (h2 : m.2 = me.2) : isP sh m q := by
  unfold isP gR at *
  rw [h2]
  exact h
/-! what the methods do to the memory -/
def beginM (me : Mem) (q : Nat) (p i s : Int32) : Mem := (fun a b => if a = q ∧ b = 6 then p else if a = q ∧ b = 7 then i else if a = q ∧ b = 8 then s else if a = q ∧ b = 9 then -4 else if a = q ∧ b = 5 then 0 else if a = q + 5 ∧ b < 5 then 0 else me.1 a b, me.2)
def wearM (me : Mem) (q q2 : Nat) : Mem := (fun a b => if a = q ∧ b = 5 then me.1 q2 5 else if q + 1 ≤ a ∧ a ≤ q + 4 ∧ b < 8 then me.1 (q2 + (a - q)) b else me.1 a b, me.2)
def likeM (me : Mem) (q q2 : Nat) : Mem := (fun a b => if a = q ∧ 5 ≤ b ∧ b ≤ 9 then me.1 q2 b else if q + 1 ≤ a ∧ a ≤ q + 4 ∧ b < 8 then me.1 (q2 + (a - q)) b else if a = q + 5 ∧ b < 5 then me.1 (q2 + 5) b else me.1 a b, me.2)
def shfM (me : Mem) (q c i : Nat) : Mem := (fun a b => if q + 1 ≤ a ∧ a ≤ q + 4 ∧ c ≤ b ∧ b < i then me.1 a (b + 1) else me.1 a b, me.2)
def growM (me : Mem) (q i : Nat) : Mem := (fun a b => if a = q + 2 ∧ b < i then growI (me.1 (q + 2) b) (me.1 (q + 3) b) else me.1 a b, me.2)
def swapM (me : Mem) (q q2 i j : Nat) : Mem := (fun a b => if q + 1 ≤ a ∧ a ≤ q + 4 ∧ b = i then me.1 (q2 + (a - q)) j else if q2 + 1 ≤ a ∧ a ≤ q2 + 4 ∧ b = j then me.1 (q + (a - q2)) i else me.1 a b, me.2)
def putM (me : Mem) (q n : Nat) (l a r t : Int32) : Mem := uI (uI (uI (uI (uI me (q + 1) n l) (q + 2) n a) (q + 3) n r) (q + 4) n t) q 5 (nI (n + 1))
def takeM (me : Mem) (q c n : Nat) : Mem := uI (shfM me q c (n - 1)) q 5 (nI (n - 1))
def payM (me : Mem) (q c n : Nat) : Mem := takeM (uI me q 6 (gI me q 6 - gI me (q + 2) c)) q c n
def taxF (me : Mem) (q : Nat) : Nat → Int32 := fun c => gI me (q + 5) (gI me (q + 1) c).toNatClampNeg
def nightM (me : Mem) (q n : Nat) : Mem := uI (growM me q n) q 6 (purseI (gI me q 6) (gI me q 7) (sumF (taxF me q) n))
def fallM (me : Mem) (q : Nat) (day : Int32) : Mem := if gI me q 9 = -4 then uI (uI me q 6 0) q 9 day else uI me q 6 0
def hotP (me : Mem) (q n : Nat) (heat : Int32) : Prop := maxI (gI me q 8 - heat) 0 < sumF (gI me (q + 4)) n
theorem g_def (i : Nat → Nat → Int32) (r : Nat → Nat → Option Nat) (a b : Nat) : gI (i, r) a b = i a b := rfl
theorem g_raw (me : Mem) (a b : Nat) : me.1 a b = gI me a b := rfl
section PERSON
variable {sh : List Shp} {me : Mem} {d q q2 n : Nat}
set_option maxHeartbeats 4000000 in
set_option maxRecDepth 100000 in
theorem c_thick (hq : isP sh me q) (hw : gI me q 5 = nI n) (hn : n ≤ 8) : CI d mX1_thickTogether sh [.ref q] me (fun x m => x = sumF (gI me (q + 4)) n ∧ m = me) := by
  obtain ⟨s0, s1, s2, s3, s4, s5, r0, r1, r2, r3, r4⟩ := hq
  have key : ∀ fuel i, n - i < fuel → i ≤ n → Wa mX1_thickTogether (0, fun _ => 0) d 0 0 sh.length (PI sh (fun x m => x = sumF (gI me (q + 4)) n ∧ m = me)) 4 [.ref q, .int (sumF (gI me (q + 4)) i), .int (nI i)] [] sh me 0 0 := by
    intro fuel
    induction fuel with
    | zero => intro i h; omega
    | succ fuel ih =>
      intro i hi hin
      refine ld_i2 (np := 5) dX1_thickTogether_4 rfl ?_
      refine ld_a0 (np := 6) dX1_thickTogether_5 rfl ?_
      refine wl_geti (np := 9) dX1_thickTogether_6 rfl fl_X1_40 (by decide) (by assumption) ?_
      refine wl_icmp_ge (np := 12) (tg := 27) dX1_thickTogether_9 rfl rfl (fun c_9 => ?_) (fun c_9 => ?_)
      · refine ld_i1 (np := 28) dX1_thickTogether_27 rfl ?_
        refine wi_ret dX1_thickTogether_28 rfl (rfl) (Nat.le_refl _) (Nat.le_refl _) ?_
        rw [hw, nI_le_iff (by omega) (by omega)] at c_9
        rw [show i = n by omega]
        exact ⟨rfl, rfl⟩
      · rw [hw, nI_le_iff (by omega) (by omega)] at c_9
        refine ld_i1 (np := 13) dX1_thickTogether_12 rfl ?_
        refine ld_a0 (np := 14) dX1_thickTogether_13 rfl ?_
        refine wl_getr (np := 17) dX1_thickTogether_14 rfl fl_X1_21 rfl (by assumption) (by assumption) ?_
        refine ld_i2 (np := 18) dX1_thickTogether_17 rfl ?_
        refine wl_iaload (np := 19) dX1_thickTogether_18 rfl (inA_n s4 (by omega) (by decide)) ?_
        refine wl_iadd (np := 20) dX1_thickTogether_19 rfl ?_
        refine st_i1 (np := 21) dX1_thickTogether_20 rfl (by decide) rfl ?_
        refine inc_2 (np := 24) (v := _ + 1) dX1_thickTogether_21 rfl rfl (by decide) rfl ?_
        refine wl_goto (tg := 4) dX1_thickTogether_24 rfl ?_
        rw [nI_clamp (by omega), ← nI_succ]
        exact ih (i + 1) (by omega) (by omega)
  refine CI.mk (L := [.ref q, .float 0, .float 0]) (by decide) (Nat.le_of_ble_eq_true rfl) rfl ?_
  refine wl_iconst (np := 1) (v := 0) dX1_thickTogether_0 rfl (rfl) ?_
  refine st_i1 (np := 2) dX1_thickTogether_1 rfl (by decide) rfl ?_
  refine wl_iconst (np := 3) (v := 0) dX1_thickTogether_2 rfl (rfl) ?_
  refine st_i2 (np := 4) dX1_thickTogether_3 rfl (by decide) rfl ?_
  exact key (n + 1) 0 (by omega) (by omega)
set_option maxHeartbeats 4000000 in
set_option maxRecDepth 100000 in
theorem c_amounts (hq : isP sh me q) (hw : gI me q 5 = nI n) (hn : n ≤ 8) : CI d mX1_amountsTogether sh [.ref q] me (fun x m => x = sumF (gI me (q + 2)) n ∧ m = me) := by
  obtain ⟨s0, s1, s2, s3, s4, s5, r0, r1, r2, r3, r4⟩ := hq
  have key : ∀ fuel i, n - i < fuel → i ≤ n → Wa mX1_amountsTogether (0, fun _ => 0) d 0 0 sh.length (PI sh (fun x m => x = sumF (gI me (q + 2)) n ∧ m = me)) 4 [.ref q, .int (sumF (gI me (q + 2)) i), .int (nI i)] [] sh me 0 0 := by
    intro fuel
    induction fuel with
    | zero => intro i h; omega
    | succ fuel ih =>
      intro i hi hin
      refine ld_i2 (np := 5) dX1_amountsTogether_4 rfl ?_
      refine ld_a0 (np := 6) dX1_amountsTogether_5 rfl ?_
      refine wl_geti (np := 9) dX1_amountsTogether_6 rfl fl_X1_40 (by decide) (by assumption) ?_
      refine wl_icmp_ge (np := 12) (tg := 27) dX1_amountsTogether_9 rfl rfl (fun c_9 => ?_) (fun c_9 => ?_)
      · refine ld_i1 (np := 28) dX1_amountsTogether_27 rfl ?_
        refine wi_ret dX1_amountsTogether_28 rfl (rfl) (Nat.le_refl _) (Nat.le_refl _) ?_
        rw [hw, nI_le_iff (by omega) (by omega)] at c_9
        rw [show i = n by omega]
        exact ⟨rfl, rfl⟩
      · rw [hw, nI_le_iff (by omega) (by omega)] at c_9
        refine ld_i1 (np := 13) dX1_amountsTogether_12 rfl ?_
        refine ld_a0 (np := 14) dX1_amountsTogether_13 rfl ?_
        refine wl_getr (np := 17) dX1_amountsTogether_14 rfl fl_X1_15 rfl (by assumption) (by assumption) ?_
        refine ld_i2 (np := 18) dX1_amountsTogether_17 rfl ?_
        refine wl_iaload (np := 19) dX1_amountsTogether_18 rfl (inA_n s2 (by omega) (by decide)) ?_
        refine wl_iadd (np := 20) dX1_amountsTogether_19 rfl ?_
        refine st_i1 (np := 21) dX1_amountsTogether_20 rfl (by decide) rfl ?_
        refine inc_2 (np := 24) (v := _ + 1) dX1_amountsTogether_21 rfl rfl (by decide) rfl ?_
        refine wl_goto (tg := 4) dX1_amountsTogether_24 rfl ?_
        rw [nI_clamp (by omega), ← nI_succ]
        exact ih (i + 1) (by omega) (by omega)
  refine CI.mk (L := [.ref q, .float 0, .float 0]) (by decide) (Nat.le_of_ble_eq_true rfl) rfl ?_
  refine wl_iconst (np := 1) (v := 0) dX1_amountsTogether_0 rfl (rfl) ?_
  refine st_i1 (np := 2) dX1_amountsTogether_1 rfl (by decide) rfl ?_
  refine wl_iconst (np := 3) (v := 0) dX1_amountsTogether_2 rfl (rfl) ?_
  refine st_i2 (np := 4) dX1_amountsTogether_3 rfl (by decide) rfl ?_
  exact key (n + 1) 0 (by omega) (by omega)
def owedF (me : Mem) (q : Nat) (l : Int32) : Nat → Int32 := fun c => if gI me (q + 1) c = l then gI me (q + 2) c else 0
set_option maxHeartbeats 4000000 in
set_option maxRecDepth 100000 in
theorem c_owedTo (l : Int32) (hq : isP sh me q) (hw : gI me q 5 = nI n) (hn : n ≤ 8) : CI d mX1_owedTo sh [.ref q, .int l] me (fun x m => x = sumF (owedF me q l) n ∧ m = me) := by
  obtain ⟨s0, s1, s2, s3, s4, s5, r0, r1, r2, r3, r4⟩ := hq
  have key : ∀ fuel i, n - i < fuel → i ≤ n → Wa mX1_owedTo (0, fun _ => 0) d 0 0 sh.length (PI sh (fun x m => x = sumF (owedF me q l) n ∧ m = me)) 4 [.ref q, .int l, .int (sumF (owedF me q l) i), .int (nI i)] [] sh me 0 0 := by
    intro fuel
    induction fuel with
    | zero => intro i h; omega
    | succ fuel ih =>
      intro i hi hin
      refine ld_i3 (np := 5) dX1_owedTo_4 rfl ?_
      refine ld_a0 (np := 6) dX1_owedTo_5 rfl ?_
      refine wl_geti (np := 9) dX1_owedTo_6 rfl fl_X1_40 (by decide) (by assumption) ?_
      refine wl_icmp_ge (np := 12) (tg := 37) dX1_owedTo_9 rfl rfl (fun c_9 => ?_) (fun c_9 => ?_)
      · refine ld_i2 (np := 38) dX1_owedTo_37 rfl ?_
        refine wi_ret dX1_owedTo_38 rfl (rfl) (Nat.le_refl _) (Nat.le_refl _) ?_
        rw [hw, nI_le_iff (by omega) (by omega)] at c_9
        rw [show i = n by omega]
        exact ⟨rfl, rfl⟩
      · rw [hw, nI_le_iff (by omega) (by omega)] at c_9
        refine ld_a0 (np := 13) dX1_owedTo_12 rfl ?_
        refine wl_getr (np := 16) dX1_owedTo_13 rfl fl_X1_9 rfl (by assumption) (by assumption) ?_
        refine ld_i3 (np := 17) dX1_owedTo_16 rfl ?_
        refine wl_iaload (np := 18) dX1_owedTo_17 rfl (inA_n s1 (by omega) (by decide)) ?_
        refine ld_i1 (np := 19) dX1_owedTo_18 rfl ?_
        refine wl_icmp_ne (np := 22) (tg := 31) dX1_owedTo_19 rfl rfl (fun c_19 => ?_) (fun c_19 => ?_)
        · rw [nI_clamp (by omega)] at c_19
          have e : sumF (owedF me q l) (i + 1) = sumF (owedF me q l) i := by
            show sumF (owedF me q l) i + owedF me q l i = _
            unfold owedF
            rw [if_neg c_19, Int32.add_zero]
          refine inc_3 (np := 34) (v := _ + 1) dX1_owedTo_31 rfl rfl (by decide) rfl ?_
          refine wl_goto (tg := 4) dX1_owedTo_34 rfl ?_
          rw [← nI_succ, ← e]
          exact ih (i + 1) (by omega) (by omega)
        · rw [nI_clamp (by omega)] at c_19
          have e : sumF (owedF me q l) (i + 1) = sumF (owedF me q l) i + gI me (q + 2) i := by
            show sumF (owedF me q l) i + owedF me q l i = _
            congr 1
            unfold owedF
            rw [if_pos c_19]
          refine ld_i2 (np := 23) dX1_owedTo_22 rfl ?_
          refine ld_a0 (np := 24) dX1_owedTo_23 rfl ?_
          refine wl_getr (np := 27) dX1_owedTo_24 rfl fl_X1_15 rfl (by assumption) (by assumption) ?_
          refine ld_i3 (np := 28) dX1_owedTo_27 rfl ?_
          refine wl_iaload (np := 29) dX1_owedTo_28 rfl (inA_n s2 (by omega) (by decide)) ?_
          refine wl_iadd (np := 30) dX1_owedTo_29 rfl ?_
          refine st_i2 (np := 31) dX1_owedTo_30 rfl (by decide) rfl ?_
          refine inc_3 (np := 34) (v := _ + 1) dX1_owedTo_31 rfl rfl (by decide) rfl ?_
          refine wl_goto (tg := 4) dX1_owedTo_34 rfl ?_
          rw [nI_clamp (by omega), ← nI_succ, ← e]
          exact ih (i + 1) (by omega) (by omega)
  refine CI.mk (L := [.ref q, .int l, .float 0, .float 0]) (by decide) (Nat.le_of_ble_eq_true rfl) rfl ?_
  refine wl_iconst (np := 1) (v := 0) dX1_owedTo_0 rfl (rfl) ?_
  refine st_i2 (np := 2) dX1_owedTo_1 rfl (by decide) rfl ?_
  refine wl_iconst (np := 3) (v := 0) dX1_owedTo_2 rfl (rfl) ?_
  refine st_i3 (np := 4) dX1_owedTo_3 rfl (by decide) rfl ?_
  exact key (n + 1) 0 (by omega) (by omega)
set_option maxHeartbeats 4000000 in
set_option maxRecDepth 100000 in
theorem c_begin (p i s : Int32) (hq : isP sh me q) (hd : 1 ≤ d) : CV d mX1_begin sh [.ref q, .int p, .int i, .int s] me (fun m => m = beginM me q p i s) := by
  obtain ⟨s0, s1, s2, s3, s4, s5, r0, r1, r2, r3, r4⟩ := hq
  refine CV.mk (L := [.ref q, .int p, .int i, .int s]) (by decide) (Nat.le_of_ble_eq_true rfl) rfl ?_
  refine ld_a0 (np := 1) dX1_begin_0 rfl ?_
  refine ld_i1 (np := 2) dX1_begin_1 rfl ?_
  refine wl_puti (np := 5) dX1_begin_2 rfl fl_X1_27 nf_1_6 rfl (by assumption) ?_
  refine ld_a0 (np := 6) dX1_begin_5 rfl ?_
  refine ld_i2 (np := 7) dX1_begin_6 rfl ?_
  refine wl_puti (np := 10) dX1_begin_7 rfl fl_X1_31 nf_1_7 rfl (by assumption) ?_
  refine ld_a0 (np := 11) dX1_begin_10 rfl ?_
  refine ld_i3 (np := 12) dX1_begin_11 rfl ?_
  refine wl_puti (np := 15) dX1_begin_12 rfl fl_X1_34 nf_1_8 rfl (by assumption) ?_
  refine ld_a0 (np := 16) dX1_begin_15 rfl ?_
  refine wl_bipush (np := 18) (v := -4) dX1_begin_16 rfl (by decide) ?_
  refine wl_puti (np := 21) dX1_begin_18 rfl fl_X1_37 nf_1_9 rfl (by assumption) ?_
  refine ld_a0 (np := 22) dX1_begin_21 rfl ?_
  refine wl_iconst (np := 23) (v := 0) dX1_begin_22 rfl (rfl) ?_
  refine wl_puti (np := 26) dX1_begin_23 rfl fl_X1_40 nf_1_5 rfl (by assumption) ?_
  refine ld_a0 (np := 27) dX1_begin_26 rfl ?_
  refine wl_getr (np := 30) dX1_begin_27 rfl fl_X1_24 rfl (by assumption) (by assumption) ?_
  refine wl_iconst (np := 31) (v := 0) dX1_begin_30 rfl (rfl) ?_
  refine cvS_2 (np := 34) dX1_begin_31 rfl lk_X1_43 (Nat.le_of_ble_eq_true rfl) (by omega) (Nat.le_refl _) (Nat.le_refl _) (c_fill 0 s5 (by decide)) (fun m_31 h_31 => ?_)
  have q_31 := h_31.symm
  subst q_31
  refine wv_ret dX1_begin_34 rfl (Nat.le_refl _) (Nat.le_refl _) ?_
  apply mem_ext
  · intro a b
    simp only [gI_uI, gI_uA, fillF, beginM, g_def, g_raw]
    grind
  · rfl
set_option maxHeartbeats 4000000 in
set_option maxRecDepth 100000 in
theorem c_wearAs (hq : isP sh me q) (hq2 : isP sh me q2) (hd : 2 ≤ d) (hne : q2 + 6 ≤ q ∨ q + 6 ≤ q2) : CV d mX1_wearAs sh [.ref q, .ref q2] me (fun m => m = wearM me q q2) := by
  obtain ⟨s0, s1, s2, s3, s4, s5, r0, r1, r2, r3, r4⟩ := hq
  obtain ⟨t0, t1, t2, t3, t4, t5, u0, u1, u2, u3, u4⟩ := hq2
  refine CV.mk (L := [.ref q, .ref q2]) (by decide) (Nat.le_of_ble_eq_true rfl) rfl ?_
  refine ld_a0 (np := 1) dX1_wearAs_0 rfl ?_
  refine ld_a1 (np := 2) dX1_wearAs_1 rfl ?_
  refine wl_geti (np := 5) dX1_wearAs_2 rfl fl_X1_40 (by decide) (by assumption) ?_
  refine wl_puti (np := 8) dX1_wearAs_5 rfl fl_X1_40 nf_1_5 rfl (by assumption) ?_
  refine ld_a1 (np := 9) dX1_wearAs_8 rfl ?_
  refine wl_getr (np := 12) dX1_wearAs_9 rfl fl_X1_9 rfl (by assumption) (by assumption) ?_
  refine wl_iconst (np := 13) (v := 0) dX1_wearAs_12 rfl (rfl) ?_
  refine ld_a0 (np := 14) dX1_wearAs_13 rfl ?_
  refine wl_getr (np := 17) dX1_wearAs_14 rfl fl_X1_9 rfl (by assumption) (by assumption) ?_
  refine wl_iconst (np := 18) (v := 0) dX1_wearAs_17 rfl (rfl) ?_
  refine wl_bipush (np := 20) (v := 8) dX1_wearAs_18 rfl (by decide) ?_
  refine wl_copy (np := 23) dX1_wearAs_20 rfl lk_X1_53 (Nat.le_of_ble_eq_true rfl) (by omega) (by assumption) (by assumption) (by decide) (by decide) (by decide) (by decide) (by decide) ?_
  refine ld_a1 (np := 24) dX1_wearAs_23 rfl ?_
  refine wl_getr (np := 27) dX1_wearAs_24 rfl fl_X1_15 rfl (by assumption) (by assumption) ?_
  refine wl_iconst (np := 28) (v := 0) dX1_wearAs_27 rfl (rfl) ?_
  refine ld_a0 (np := 29) dX1_wearAs_28 rfl ?_
  refine wl_getr (np := 32) dX1_wearAs_29 rfl fl_X1_15 rfl (by assumption) (by assumption) ?_
  refine wl_iconst (np := 33) (v := 0) dX1_wearAs_32 rfl (rfl) ?_
  refine wl_bipush (np := 35) (v := 8) dX1_wearAs_33 rfl (by decide) ?_
  refine wl_copy (np := 38) dX1_wearAs_35 rfl lk_X1_53 (Nat.le_of_ble_eq_true rfl) (by omega) (by assumption) (by assumption) (by decide) (by decide) (by decide) (by decide) (by decide) ?_
  refine ld_a1 (np := 39) dX1_wearAs_38 rfl ?_
  refine wl_getr (np := 42) dX1_wearAs_39 rfl fl_X1_18 rfl (by assumption) (by assumption) ?_
  refine wl_iconst (np := 43) (v := 0) dX1_wearAs_42 rfl (rfl) ?_
  refine ld_a0 (np := 44) dX1_wearAs_43 rfl ?_
  refine wl_getr (np := 47) dX1_wearAs_44 rfl fl_X1_18 rfl (by assumption) (by assumption) ?_
  refine wl_iconst (np := 48) (v := 0) dX1_wearAs_47 rfl (rfl) ?_
  refine wl_bipush (np := 50) (v := 8) dX1_wearAs_48 rfl (by decide) ?_
  refine wl_copy (np := 53) dX1_wearAs_50 rfl lk_X1_53 (Nat.le_of_ble_eq_true rfl) (by omega) (by assumption) (by assumption) (by decide) (by decide) (by decide) (by decide) (by decide) ?_
  refine ld_a1 (np := 54) dX1_wearAs_53 rfl ?_
  refine wl_getr (np := 57) dX1_wearAs_54 rfl fl_X1_21 rfl (by assumption) (by assumption) ?_
  refine wl_iconst (np := 58) (v := 0) dX1_wearAs_57 rfl (rfl) ?_
  refine ld_a0 (np := 59) dX1_wearAs_58 rfl ?_
  refine wl_getr (np := 62) dX1_wearAs_59 rfl fl_X1_21 rfl (by assumption) (by assumption) ?_
  refine wl_iconst (np := 63) (v := 0) dX1_wearAs_62 rfl (rfl) ?_
  refine wl_bipush (np := 65) (v := 8) dX1_wearAs_63 rfl (by decide) ?_
  refine wl_copy (np := 68) dX1_wearAs_65 rfl lk_X1_53 (Nat.le_of_ble_eq_true rfl) (by omega) (by assumption) (by assumption) (by decide) (by decide) (by decide) (by decide) (by decide) ?_
  refine wv_ret dX1_wearAs_68 rfl (Nat.le_refl _) (Nat.le_refl _) ?_
  apply mem_ext
  · intro a b
    simp only [gI_uI, gI_uA, va_cpy, wearM, g_def, g_raw]
    have e0 : (0 : Int32).toNatClampNeg = 0 := rfl
    have e8 : (8 : Int32).toNatClampNeg = 8 := rfl
    rw [e0, e8]
    by_cases h1 : a = q + 1
    · subst h1; grind
    by_cases h2 : a = q + 2
    · subst h2; grind
    by_cases h3 : a = q + 3
    · subst h3; grind
    by_cases h4 : a = q + 4
    · subst h4; grind
    grind
  · rfl
set_option maxHeartbeats 4000000 in
set_option maxRecDepth 100000 in
theorem c_becomeLike (hq : isP sh me q) (hq2 : isP sh me q2) (hd : 3 ≤ d) (hne : q2 + 6 ≤ q ∨ q + 6 ≤ q2) : CV d mX1_becomeLike sh [.ref q, .ref q2] me (fun m => m = likeM me q q2) := by
  have hqs := hq
  have hqs2 := hq2
  obtain ⟨s0, s1, s2, s3, s4, s5, r0, r1, r2, r3, r4⟩ := hq
  obtain ⟨t0, t1, t2, t3, t4, t5, u0, u1, u2, u3, u4⟩ := hq2
  refine CV.mk (L := [.ref q, .ref q2]) (by decide) (Nat.le_of_ble_eq_true rfl) rfl ?_
  refine ld_a0 (np := 1) dX1_becomeLike_0 rfl ?_
  refine ld_a1 (np := 2) dX1_becomeLike_1 rfl ?_
  refine wl_geti (np := 5) dX1_becomeLike_2 rfl fl_X1_27 (by decide) (by assumption) ?_
  refine ld_a1 (np := 6) dX1_becomeLike_5 rfl ?_
  refine wl_geti (np := 9) dX1_becomeLike_6 rfl fl_X1_31 (by decide) (by assumption) ?_
  refine ld_a1 (np := 10) dX1_becomeLike_9 rfl ?_
  refine wl_geti (np := 13) dX1_becomeLike_10 rfl fl_X1_34 (by decide) (by assumption) ?_
  refine cvV_3 (np := 16) dX1_becomeLike_13 rfl lk_X1_49 (by assumption) (Nat.le_of_ble_eq_true rfl) (by omega) (Nat.le_refl _) (Nat.le_refl _) (c_begin _ _ _ hqs (by omega)) (fun m_13 h_13 => ?_)
  have q_13 := h_13.symm
  subst q_13
  refine ld_a0 (np := 17) dX1_becomeLike_16 rfl ?_
  refine ld_a1 (np := 18) dX1_becomeLike_17 rfl ?_
  refine wl_geti (np := 21) dX1_becomeLike_18 rfl fl_X1_37 (by decide) (by assumption) ?_
  refine wl_puti (np := 24) dX1_becomeLike_21 rfl fl_X1_37 nf_1_9 rfl (by assumption) ?_
  refine ld_a1 (np := 25) dX1_becomeLike_24 rfl ?_
  refine wl_getr (np := 28) dX1_becomeLike_25 rfl fl_X1_24 rfl (by assumption) (by assumption) ?_
  refine wl_iconst (np := 29) (v := 0) dX1_becomeLike_28 rfl (rfl) ?_
  refine ld_a0 (np := 30) dX1_becomeLike_29 rfl ?_
  refine wl_getr (np := 33) dX1_becomeLike_30 rfl fl_X1_24 rfl (by assumption) (by assumption) ?_
  refine wl_iconst (np := 34) (v := 0) dX1_becomeLike_33 rfl (rfl) ?_
  refine wl_iconst (np := 35) (v := 5) dX1_becomeLike_34 rfl (rfl) ?_
  refine wl_copy (np := 38) dX1_becomeLike_35 rfl lk_X1_53 (Nat.le_of_ble_eq_true rfl) (by omega) (by assumption) (by assumption) (by decide) (by decide) (by decide) (by decide) (by decide) ?_
  refine ld_a0 (np := 39) dX1_becomeLike_38 rfl ?_
  refine ld_a1 (np := 40) dX1_becomeLike_39 rfl ?_
  refine cvV_1 (np := 43) dX1_becomeLike_40 rfl lk_X1_59 (by assumption) (Nat.le_of_ble_eq_true rfl) (by omega) (Nat.le_refl _) (Nat.le_refl _) (c_wearAs (hqs.of rfl) (hqs2.of rfl) (by omega) hne) (fun m_40 h_40 => ?_)
  have q_40 := h_40.symm
  subst q_40
  refine wv_ret dX1_becomeLike_43 rfl (Nat.le_refl _) (Nat.le_refl _) ?_
  apply mem_ext
  · intro a b
    simp only [gI_uI, gI_uA, va_cpy, wearM, beginM, likeM, g_def, g_raw]
    have e0 : (0 : Int32).toNatClampNeg = 0 := rfl
    have e8 : (5 : Int32).toNatClampNeg = 5 := rfl
    rw [e0, e8]
    by_cases h1 : a = q + 1
    · subst h1; grind
    by_cases h2 : a = q + 2
    · subst h2; grind
    by_cases h3 : a = q + 3
    · subst h3; grind
    by_cases h4 : a = q + 4
    · subst h4; grind
    by_cases h5 : a = q + 5
    · subst h5; grind
    clear s0 s1 s2 s3 s4 s5 r0 r1 r2 r3 r4 t0 t1 t2 t3 t4 t5 u0 u1 u2 u3 u4 hqs hqs2
    by_cases h6 : a = q
    · subst h6; grind (splits := 20)
    grind (splits := 20)
  · rfl
set_option maxHeartbeats 4000000 in
set_option maxRecDepth 100000 in
theorem c_wornSet (hq : isP sh me q) : CI d mX1_wornSet sh [.ref q] me (fun x m => x = (1 <<< (gI me q 5 &&& 31)) - 1 ∧ m = me) := by
  obtain ⟨s0, s1, s2, s3, s4, s5, r0, r1, r2, r3, r4⟩ := hq
  refine CI.mk (L := [.ref q]) (by decide) (Nat.le_of_ble_eq_true rfl) rfl ?_
  refine wl_iconst (np := 1) (v := 1) dX1_wornSet_0 rfl (rfl) ?_
  refine ld_a0 (np := 2) dX1_wornSet_1 rfl ?_
  refine wl_geti (np := 5) dX1_wornSet_2 rfl fl_X1_40 (by decide) (by assumption) ?_
  refine wl_ishl (np := 6) dX1_wornSet_5 rfl ?_
  refine wl_iconst (np := 7) (v := 1) dX1_wornSet_6 rfl (rfl) ?_
  refine wl_isub (np := 8) dX1_wornSet_7 rfl ?_
  refine wi_ret dX1_wornSet_8 rfl (rfl) (Nat.le_refl _) (Nat.le_refl _) ?_
  exact ⟨rfl, rfl⟩
set_option maxHeartbeats 4000000 in
set_option maxRecDepth 100000 in
theorem c_isBetween (c : Int32) (hq : isP sh me q) : CI d mX1_isBetween sh [.ref q, .int c] me (fun x m => x = (if 0 < c ∧ c < gI me q 5 - 1 then 1 else 0) ∧ m = me) := by
  obtain ⟨s0, s1, s2, s3, s4, s5, r0, r1, r2, r3, r4⟩ := hq
  refine CI.mk (L := [.ref q, .int c]) (by decide) (Nat.le_of_ble_eq_true rfl) rfl ?_
  refine ld_i1 (np := 1) dX1_isBetween_0 rfl ?_
  refine wl_if_le (np := 4) (tg := 18) dX1_isBetween_1 rfl rfl (fun c_1 => ?_) (fun c_1 => ?_)
  · refine wl_iconst (np := 19) (v := 0) dX1_isBetween_18 rfl (rfl) ?_
    refine wi_ret dX1_isBetween_19 rfl (by decide) (Nat.le_refl _) (Nat.le_refl _) ?_
    exact ⟨by rw [if_neg (fun h => Int32.not_lt.mpr c_1 h.1)], rfl⟩
  · refine ld_i1 (np := 5) dX1_isBetween_4 rfl ?_
    refine ld_a0 (np := 6) dX1_isBetween_5 rfl ?_
    refine wl_geti (np := 9) dX1_isBetween_6 rfl fl_X1_40 (by decide) (by assumption) ?_
    refine wl_iconst (np := 10) (v := 1) dX1_isBetween_9 rfl (rfl) ?_
    refine wl_isub (np := 11) dX1_isBetween_10 rfl ?_
    refine wl_icmp_ge (np := 14) (tg := 18) dX1_isBetween_11 rfl rfl (fun c_11 => ?_) (fun c_11 => ?_)
    · refine wl_iconst (np := 19) (v := 0) dX1_isBetween_18 rfl (rfl) ?_
      refine wi_ret dX1_isBetween_19 rfl (by decide) (Nat.le_refl _) (Nat.le_refl _) ?_
      exact ⟨by rw [if_neg (fun h => Int32.not_lt.mpr c_11 h.2)], rfl⟩
    · refine wl_iconst (np := 15) (v := 1) dX1_isBetween_14 rfl (rfl) ?_
      refine wl_goto (tg := 19) dX1_isBetween_15 rfl ?_
      refine wi_ret dX1_isBetween_19 rfl (by decide) (Nat.le_refl _) (Nat.le_refl _) ?_
      exact ⟨by rw [if_pos ⟨Int32.not_le.mp c_1, Int32.not_le.mp c_11⟩], rfl⟩
set_option maxHeartbeats 4000000 in
set_option maxRecDepth 100000 in
theorem c_putOn (l a r t : Int32) (hq : isP sh me q) (hw : gI me q 5 = nI n) (hn : n < 8) : CV d mX1_putOn sh [.ref q, .int l, .int a, .int r, .int t] me (fun m => m = putM me q n l a r t) := by
  obtain ⟨s0, s1, s2, s3, s4, s5, r0, r1, r2, r3, r4⟩ := hq
  have w1 : ∀ (m : Mem), gI m q 5 = gI me q 5 → gI m q 5 = nI n := fun m h => h.trans hw
  refine CV.mk (L := [.ref q, .int l, .int a, .int r, .int t]) (by decide) (Nat.le_of_ble_eq_true rfl) rfl ?_
  refine ld_a0 (np := 1) dX1_putOn_0 rfl ?_
  refine wl_geti (np := 4) dX1_putOn_1 rfl fl_X1_40 (by decide) (by assumption) ?_
  refine wl_bipush (np := 6) (v := 8) dX1_putOn_4 rfl (by decide) ?_
  refine wl_icmp_ge (np := 9) (tg := 60) dX1_putOn_6 rfl rfl (fun c_6 => ?_) (fun c_6 => ?_)
  · rw [hw] at c_6
    exact absurd c_6 (by rw [show (8 : Int32) = nI 8 from rfl, nI_le_iff (by decide) (by omega)]; omega)
  · have g1 : gI (uI me (q + 1) n l) q 5 = nI n := by rw [gI_uI, if_neg (by omega)]; exact hw
    have g2 : gI (uI (uI me (q + 1) n l) (q + 2) n a) q 5 = nI n := by rw [gI_uI, if_neg (by omega)]; exact g1
    have g3 : gI (uI (uI (uI me (q + 1) n l) (q + 2) n a) (q + 3) n r) q 5 = nI n := by rw [gI_uI, if_neg (by omega)]; exact g2
    have g4 : gI (uI (uI (uI (uI me (q + 1) n l) (q + 2) n a) (q + 3) n r) (q + 4) n t) q 5 = nI n := by rw [gI_uI, if_neg (by omega)]; exact g3
    refine ld_a0 (np := 10) dX1_putOn_9 rfl ?_
    refine wl_getr (np := 13) dX1_putOn_10 rfl fl_X1_9 rfl (by assumption) (by assumption) ?_
    refine ld_a0 (np := 14) dX1_putOn_13 rfl ?_
    refine wl_geti (np := 17) dX1_putOn_14 rfl fl_X1_40 (by decide) (by assumption) ?_
    refine ld_i1 (np := 18) dX1_putOn_17 rfl ?_
    refine wl_iastore (np := 19) dX1_putOn_18 rfl (hw ▸ inA_n s1 hn (by decide)) ?_
    rw [hw, nI_clamp (by omega)]
    refine ld_a0 (np := 20) dX1_putOn_19 rfl ?_
    refine wl_getr (np := 23) dX1_putOn_20 rfl fl_X1_15 rfl (by assumption) (by assumption) ?_
    refine ld_a0 (np := 24) dX1_putOn_23 rfl ?_
    refine wl_geti (np := 27) dX1_putOn_24 rfl fl_X1_40 (by decide) (by assumption) ?_
    refine ld_i2 (np := 28) dX1_putOn_27 rfl ?_
    refine wl_iastore (np := 29) dX1_putOn_28 rfl (g1 ▸ inA_n s2 hn (by decide)) ?_
    rw [g1, nI_clamp (by omega)]
    refine ld_a0 (np := 30) dX1_putOn_29 rfl ?_
    refine wl_getr (np := 33) dX1_putOn_30 rfl fl_X1_18 rfl (by assumption) (by assumption) ?_
    refine ld_a0 (np := 34) dX1_putOn_33 rfl ?_
    refine wl_geti (np := 37) dX1_putOn_34 rfl fl_X1_40 (by decide) (by assumption) ?_
    refine ld_i3 (np := 38) dX1_putOn_37 rfl ?_
    refine wl_iastore (np := 39) dX1_putOn_38 rfl (g2 ▸ inA_n s3 hn (by decide)) ?_
    rw [g2, nI_clamp (by omega)]
    refine ld_a0 (np := 40) dX1_putOn_39 rfl ?_
    refine wl_getr (np := 43) dX1_putOn_40 rfl fl_X1_21 rfl (by assumption) (by assumption) ?_
    refine ld_a0 (np := 44) dX1_putOn_43 rfl ?_
    refine wl_geti (np := 47) dX1_putOn_44 rfl fl_X1_40 (by decide) (by assumption) ?_
    refine ld_i4 (np := 49) dX1_putOn_47 rfl ?_
    refine wl_iastore (np := 50) dX1_putOn_49 rfl (g3 ▸ inA_n s4 hn (by decide)) ?_
    rw [g3, nI_clamp (by omega)]
    refine ld_a0 (np := 51) dX1_putOn_50 rfl ?_
    refine wl_dup (np := 52) dX1_putOn_51 rfl rfl ?_
    refine wl_geti (np := 55) dX1_putOn_52 rfl fl_X1_40 (by decide) (by assumption) ?_
    refine wl_iconst (np := 56) (v := 1) dX1_putOn_55 rfl (rfl) ?_
    refine wl_iadd (np := 57) dX1_putOn_56 rfl ?_
    refine wl_puti (np := 60) dX1_putOn_57 rfl fl_X1_40 nf_1_5 rfl (by assumption) ?_
    refine wv_ret dX1_putOn_60 rfl (Nat.le_refl _) (Nat.le_refl _) ?_
    rw [g4, ← nI_succ]
    rfl
set_option maxHeartbeats 4000000 in
set_option maxRecDepth 100000 in
theorem c_fall (day : Int32) (hq : isP sh me q) : CV d mX1_fall sh [.ref q, .int day] me (fun m => m = fallM me q day) := by
  obtain ⟨s0, s1, s2, s3, s4, s5, r0, r1, r2, r3, r4⟩ := hq
  have e : gI (uI me q 6 0) q 9 = gI me q 9 := by rw [gI_uI, if_neg (by omega)]
  refine CV.mk (L := [.ref q, .int day]) (by decide) (Nat.le_of_ble_eq_true rfl) rfl ?_
  refine ld_a0 (np := 1) dX1_fall_0 rfl ?_
  refine wl_iconst (np := 2) (v := 0) dX1_fall_1 rfl (rfl) ?_
  refine wl_puti (np := 5) dX1_fall_2 rfl fl_X1_27 nf_1_6 rfl (by assumption) ?_
  refine ld_a0 (np := 6) dX1_fall_5 rfl ?_
  refine wl_geti (np := 9) dX1_fall_6 rfl fl_X1_37 (by decide) (by assumption) ?_
  refine wl_bipush (np := 11) (v := -4) dX1_fall_9 rfl (by decide) ?_
  refine wl_icmp_ne (np := 14) (tg := 19) dX1_fall_11 rfl rfl (fun c_11 => ?_) (fun c_11 => ?_)
  · rw [e] at c_11
    refine wv_ret dX1_fall_19 rfl (Nat.le_refl _) (Nat.le_refl _) ?_
    unfold fallM
    rw [if_neg c_11]
  · rw [e] at c_11
    refine ld_a0 (np := 15) dX1_fall_14 rfl ?_
    refine ld_i1 (np := 16) dX1_fall_15 rfl ?_
    refine wl_puti (np := 19) dX1_fall_16 rfl fl_X1_37 nf_1_9 rfl (by assumption) ?_
    refine wv_ret dX1_fall_19 rfl (Nat.le_refl _) (Nat.le_refl _) ?_
    unfold fallM
    rw [if_pos c_11]
set_option maxHeartbeats 4000000 in
set_option maxRecDepth 100000 in
theorem c_takeOff {c : Nat} (hq : isP sh me q) (hw : gI me q 5 = nI n) (hn : n ≤ 8) (hc : c < n) : CV d mX1_takeOff sh [.ref q, .int (nI c)] me (fun m => m = takeM me q c n) := by
  obtain ⟨s0, s1, s2, s3, s4, s5, r0, r1, r2, r3, r4⟩ := hq
  have n1 : nI n - 1 = nI (n - 1) := by
    obtain ⟨k, rfl⟩ : ∃ k, n = k + 1 := ⟨n - 1, by omega⟩
    rw [nI_succ, Int32.add_sub_cancel]; rfl
  have hw2 : ∀ i, gI (shfM me q c i) q 5 = nI n := fun i => by
    rw [← hw]; simp only [shfM, g_def, g_raw]; rw [if_neg (by omega)]
  have key : ∀ fuel i, n - 1 - i < fuel → c ≤ i → i ≤ n - 1 → Wa mX1_takeOff (0, fun _ => 0) d 0 0 sh.length (PV sh (fun m => m = takeM me q c n)) 2 [.ref q, .int (nI c), .int (nI i)] [] sh (shfM me q c i) 0 0 := by
    intro fuel
    induction fuel with
    | zero => intro i h; omega
    | succ fuel ih =>
      intro i hi hci hin
      refine ld_i2 (np := 3) dX1_takeOff_2 rfl ?_
      refine ld_a0 (np := 4) dX1_takeOff_3 rfl ?_
      refine wl_geti (np := 7) dX1_takeOff_4 rfl fl_X1_40 (by decide) (by assumption) ?_
      refine wl_iconst (np := 8) (v := 1) dX1_takeOff_7 rfl (rfl) ?_
      refine wl_isub (np := 9) dX1_takeOff_8 rfl ?_
      refine wl_icmp_ge (np := 12) (tg := 74) dX1_takeOff_9 rfl rfl (fun c_9 => ?_) (fun c_9 => ?_)
      · rw [hw2, n1, nI_le_iff (by omega) (by omega)] at c_9
        refine ld_a0 (np := 75) dX1_takeOff_74 rfl ?_
        refine wl_dup (np := 76) dX1_takeOff_75 rfl rfl ?_
        refine wl_geti (np := 79) dX1_takeOff_76 rfl fl_X1_40 (by decide) (by assumption) ?_
        refine wl_iconst (np := 80) (v := 1) dX1_takeOff_79 rfl (rfl) ?_
        refine wl_isub (np := 81) dX1_takeOff_80 rfl ?_
        refine wl_puti (np := 84) dX1_takeOff_81 rfl fl_X1_40 nf_1_5 rfl (by assumption) ?_
        refine wv_ret dX1_takeOff_84 rfl (Nat.le_refl _) (Nat.le_refl _) ?_
        rw [hw2, n1, show i = n - 1 by omega]
        rfl
      · rw [hw2, n1, nI_le_iff (by omega) (by omega)] at c_9
        refine ld_a0 (np := 13) dX1_takeOff_12 rfl ?_
        refine wl_getr (np := 16) dX1_takeOff_13 rfl fl_X1_9 rfl (by assumption) (by assumption) ?_
        refine ld_i2 (np := 17) dX1_takeOff_16 rfl ?_
        refine ld_a0 (np := 18) dX1_takeOff_17 rfl ?_
        refine wl_getr (np := 21) dX1_takeOff_18 rfl fl_X1_9 rfl (by assumption) (by assumption) ?_
        refine ld_i2 (np := 22) dX1_takeOff_21 rfl ?_
        refine wl_iconst (np := 23) (v := 1) dX1_takeOff_22 rfl (rfl) ?_
        refine wl_iadd (np := 24) dX1_takeOff_23 rfl ?_
        refine wl_iaload (np := 25) dX1_takeOff_24 rfl (nI_succ i ▸ inA_n s1 (by omega) (by decide)) ?_
        refine wl_iastore (np := 26) dX1_takeOff_25 rfl (inA_n s1 (by omega) (by decide)) ?_
        refine ld_a0 (np := 27) dX1_takeOff_26 rfl ?_
        refine wl_getr (np := 30) dX1_takeOff_27 rfl fl_X1_15 rfl (by assumption) (by assumption) ?_
        refine ld_i2 (np := 31) dX1_takeOff_30 rfl ?_
        refine ld_a0 (np := 32) dX1_takeOff_31 rfl ?_
        refine wl_getr (np := 35) dX1_takeOff_32 rfl fl_X1_15 rfl (by assumption) (by assumption) ?_
        refine ld_i2 (np := 36) dX1_takeOff_35 rfl ?_
        refine wl_iconst (np := 37) (v := 1) dX1_takeOff_36 rfl (rfl) ?_
        refine wl_iadd (np := 38) dX1_takeOff_37 rfl ?_
        refine wl_iaload (np := 39) dX1_takeOff_38 rfl (nI_succ i ▸ inA_n s2 (by omega) (by decide)) ?_
        refine wl_iastore (np := 40) dX1_takeOff_39 rfl (inA_n s2 (by omega) (by decide)) ?_
        refine ld_a0 (np := 41) dX1_takeOff_40 rfl ?_
        refine wl_getr (np := 44) dX1_takeOff_41 rfl fl_X1_18 rfl (by assumption) (by assumption) ?_
        refine ld_i2 (np := 45) dX1_takeOff_44 rfl ?_
        refine ld_a0 (np := 46) dX1_takeOff_45 rfl ?_
        refine wl_getr (np := 49) dX1_takeOff_46 rfl fl_X1_18 rfl (by assumption) (by assumption) ?_
        refine ld_i2 (np := 50) dX1_takeOff_49 rfl ?_
        refine wl_iconst (np := 51) (v := 1) dX1_takeOff_50 rfl (rfl) ?_
        refine wl_iadd (np := 52) dX1_takeOff_51 rfl ?_
        refine wl_iaload (np := 53) dX1_takeOff_52 rfl (nI_succ i ▸ inA_n s3 (by omega) (by decide)) ?_
        refine wl_iastore (np := 54) dX1_takeOff_53 rfl (inA_n s3 (by omega) (by decide)) ?_
        refine ld_a0 (np := 55) dX1_takeOff_54 rfl ?_
        refine wl_getr (np := 58) dX1_takeOff_55 rfl fl_X1_21 rfl (by assumption) (by assumption) ?_
        refine ld_i2 (np := 59) dX1_takeOff_58 rfl ?_
        refine ld_a0 (np := 60) dX1_takeOff_59 rfl ?_
        refine wl_getr (np := 63) dX1_takeOff_60 rfl fl_X1_21 rfl (by assumption) (by assumption) ?_
        refine ld_i2 (np := 64) dX1_takeOff_63 rfl ?_
        refine wl_iconst (np := 65) (v := 1) dX1_takeOff_64 rfl (rfl) ?_
        refine wl_iadd (np := 66) dX1_takeOff_65 rfl ?_
        refine wl_iaload (np := 67) dX1_takeOff_66 rfl (nI_succ i ▸ inA_n s4 (by omega) (by decide)) ?_
        refine wl_iastore (np := 68) dX1_takeOff_67 rfl (inA_n s4 (by omega) (by decide)) ?_
        refine inc_2 (np := 71) (v := _ + 1) dX1_takeOff_68 rfl rfl (by decide) rfl ?_
        refine wl_goto (tg := 2) dX1_takeOff_71 rfl ?_
        rw [← nI_succ, nI_clamp (by omega), nI_clamp (by omega)]
        refine cast (congrArg (fun z => Wa mX1_takeOff (0, fun _ => 0) d 0 0 sh.length (PV sh (fun m => m = takeM me q c n)) 2 [.ref q, .int (nI c), .int (nI (i + 1))] [] sh z 0 0) ?_) (ih (i + 1) (by omega) (by omega) (by omega))
        apply mem_ext
        · intro a b
          simp only [gI_uI, shfM, g_def, g_raw]
          clear s0 s1 s2 s3 s4 s5 r0 r1 r2 r3 r4 ih hw2 hw n1
          by_cases h1 : a = q + 1
          · subst h1; grind (splits := 20)
          by_cases h2 : a = q + 2
          · subst h2; grind (splits := 20)
          by_cases h3 : a = q + 3
          · subst h3; grind (splits := 20)
          by_cases h4 : a = q + 4
          · subst h4; grind (splits := 20)
          grind (splits := 20)
        · rfl
  refine CV.mk (L := [.ref q, .int (nI c), .float 0]) (by decide) (Nat.le_of_ble_eq_true rfl) rfl ?_
  refine ld_i1 (np := 1) dX1_takeOff_0 rfl ?_
  refine st_i2 (np := 2) dX1_takeOff_1 rfl (by decide) rfl ?_
  have e0 : shfM me q c c = me := by
    apply mem_ext
    · intro a b
      simp only [shfM, g_def, g_raw]
      rw [if_neg (by omega)]
    · rfl
  have h := key (n + 1) c (by omega) (by omega) (by omega)
  rw [e0] at h
  exact h
set_option maxHeartbeats 4000000 in
set_option maxRecDepth 100000 in
theorem c_payOff {c : Nat} (hq : isP sh me q) (hw : gI me q 5 = nI n) (hn : n ≤ 8) (hc : c < n) (hd : 1 ≤ d) : CV d mX1_payOff sh [.ref q, .int (nI c)] me (fun m => m = payM me q c n) := by
  have hqs := hq
  obtain ⟨s0, s1, s2, s3, s4, s5, r0, r1, r2, r3, r4⟩ := hq
  have e1 : ∀ x, gI (uI me q 6 x) q 5 = nI n := fun x => by rw [gI_uI, if_neg (by omega)]; exact hw
  refine CV.mk (L := [.ref q, .int (nI c)]) (by decide) (Nat.le_of_ble_eq_true rfl) rfl ?_
  refine ld_a0 (np := 1) dX1_payOff_0 rfl ?_
  refine wl_dup (np := 2) dX1_payOff_1 rfl rfl ?_
  refine wl_geti (np := 5) dX1_payOff_2 rfl fl_X1_27 (by decide) (by assumption) ?_
  refine ld_a0 (np := 6) dX1_payOff_5 rfl ?_
  refine wl_getr (np := 9) dX1_payOff_6 rfl fl_X1_15 rfl (by assumption) (by assumption) ?_
  refine ld_i1 (np := 10) dX1_payOff_9 rfl ?_
  refine wl_iaload (np := 11) dX1_payOff_10 rfl (inA_n s2 (by omega) (by decide)) ?_
  refine wl_isub (np := 12) dX1_payOff_11 rfl ?_
  refine wl_puti (np := 15) dX1_payOff_12 rfl fl_X1_27 nf_1_6 rfl (by assumption) ?_
  refine ld_a0 (np := 16) dX1_payOff_15 rfl ?_
  refine ld_i1 (np := 17) dX1_payOff_16 rfl ?_
  refine cvV_1 (np := 20) dX1_payOff_17 rfl lk_X1_63 (by assumption) (Nat.le_of_ble_eq_true rfl) (by omega) (Nat.le_refl _) (Nat.le_refl _) (c_takeOff (hqs.of rfl) (e1 _) hn hc) (fun m_17 h_17 => ?_)
  have q_17 := h_17.symm
  subst q_17
  refine wv_ret dX1_payOff_20 rfl (Nat.le_refl _) (Nat.le_refl _) ?_
  rw [nI_clamp (by omega)]
  rfl
set_option maxHeartbeats 4000000 in
set_option maxRecDepth 100000 in
theorem c_swapItems {a b i j la lb : Nat} (ha : sh[a]? = some (.inr (0, la))) (hb : sh[b]? = some (.inr (0, lb))) (hi : i < la) (hj : j < lb) (hla : la < 2 ^ 31) (hlb : lb < 2 ^ 31) : CV d mX1_swapItems sh [.ref a, .int (nI i), .ref b, .int (nI j)] me (fun m => m = uI (uI me a i (gI me b j)) b j (gI me a i)) := by
  refine CV.mk (L := [.ref a, .int (nI i), .ref b, .int (nI j), .float 0]) (by decide) (Nat.le_of_ble_eq_true rfl) rfl ?_
  refine ld_i1 (np := 1) dX1_swapItems_0 rfl ?_
  refine wl_if_lt (np := 4) (tg := 24) dX1_swapItems_1 rfl rfl (fun c_1 => ?_) (fun c_1 => ?_)
  · exact absurd c_1 (nI_pos (by omega))
  · refine ld_i3 (np := 5) dX1_swapItems_4 rfl ?_
    refine wl_if_lt (np := 8) (tg := 24) dX1_swapItems_5 rfl rfl (fun c_5 => ?_) (fun c_5 => ?_)
    · exact absurd c_5 (nI_pos (by omega))
    · refine ld_a0 (np := 9) dX1_swapItems_8 rfl ?_
      refine ld_i1 (np := 10) dX1_swapItems_9 rfl ?_
      refine wl_iaload (np := 11) dX1_swapItems_10 rfl (inA_n ha hi hla) ?_
      refine st_i4 (np := 13) dX1_swapItems_11 rfl (by decide) rfl ?_
      refine ld_a0 (np := 14) dX1_swapItems_13 rfl ?_
      refine ld_i1 (np := 15) dX1_swapItems_14 rfl ?_
      refine ld_a2 (np := 16) dX1_swapItems_15 rfl ?_
      refine ld_i3 (np := 17) dX1_swapItems_16 rfl ?_
      refine wl_iaload (np := 18) dX1_swapItems_17 rfl (inA_n hb hj hlb) ?_
      refine wl_iastore (np := 19) dX1_swapItems_18 rfl (inA_n ha hi hla) ?_
      refine ld_a2 (np := 20) dX1_swapItems_19 rfl ?_
      refine ld_i3 (np := 21) dX1_swapItems_20 rfl ?_
      refine ld_i4 (np := 23) dX1_swapItems_21 rfl ?_
      refine wl_iastore (np := 24) dX1_swapItems_23 rfl (inA_n hb hj hlb) ?_
      refine wv_ret dX1_swapItems_24 rfl (Nat.le_refl _) (Nat.le_refl _) ?_
      rw [nI_clamp (by omega), nI_clamp (by omega)]
set_option maxHeartbeats 4000000 in
set_option maxRecDepth 100000 in
theorem c_swapOutermost {n2 : Nat} (hq : isP sh me q) (hq2 : isP sh me q2) (hw : gI me q 5 = nI n) (hw2 : gI me q2 5 = nI n2) (hn : n ≤ 8) (hn2 : n2 ≤ 8) (h0 : 0 < n) (h02 : 0 < n2) (hne : q2 + 6 ≤ q ∨ q + 6 ≤ q2) (hd : 1 ≤ d) : CV d mX1_swapOutermost sh [.ref q, .ref q2] me (fun m => m = swapM me q q2 (n - 1) (n2 - 1)) := by
  obtain ⟨s0, s1, s2, s3, s4, s5, r0, r1, r2, r3, r4⟩ := hq
  obtain ⟨t0, t1, t2, t3, t4, t5, u0, u1, u2, u3, u4⟩ := hq2
  have n1 : nI n - 1 = nI (n - 1) := by
    obtain ⟨k, rfl⟩ : ∃ k, n = k + 1 := ⟨n - 1, by omega⟩
    rw [nI_succ, Int32.add_sub_cancel]; rfl
  have n3 : nI n2 - 1 = nI (n2 - 1) := by
    obtain ⟨k, rfl⟩ : ∃ k, n2 = k + 1 := ⟨n2 - 1, by omega⟩
    rw [nI_succ, Int32.add_sub_cancel]; rfl
  have g1 : ∀ (m : Mem) a b x c e y, a ≠ q → c ≠ q → gI m q 5 = nI n → gI (uI (uI m a b x) c e y) q 5 = nI n := fun m a b x c e y h1 h2 h => by
    rw [gI_uI, if_neg (by omega), gI_uI, if_neg (by omega)]; exact h
  have g2 : ∀ (m : Mem) a b x c e y, a ≠ q2 → c ≠ q2 → gI m q2 5 = nI n2 → gI (uI (uI m a b x) c e y) q2 5 = nI n2 := fun m a b x c e y h1 h2 h => by
    rw [gI_uI, if_neg (by omega), gI_uI, if_neg (by omega)]; exact h
  refine CV.mk (L := [.ref q, .ref q2]) (by decide) (Nat.le_of_ble_eq_true rfl) rfl ?_
  refine ld_a0 (np := 1) dX1_swapOutermost_0 rfl ?_
  refine wl_getr (np := 4) dX1_swapOutermost_1 rfl fl_X1_9 rfl (by assumption) (by assumption) ?_
  refine ld_a0 (np := 5) dX1_swapOutermost_4 rfl ?_
  refine wl_geti (np := 8) dX1_swapOutermost_5 rfl fl_X1_40 (by decide) (by assumption) ?_
  refine wl_iconst (np := 9) (v := 1) dX1_swapOutermost_8 rfl (rfl) ?_
  refine wl_isub (np := 10) dX1_swapOutermost_9 rfl ?_
  refine ld_a1 (np := 11) dX1_swapOutermost_10 rfl ?_
  refine wl_getr (np := 14) dX1_swapOutermost_11 rfl fl_X1_9 rfl (by assumption) (by assumption) ?_
  refine ld_a1 (np := 15) dX1_swapOutermost_14 rfl ?_
  refine wl_geti (np := 18) dX1_swapOutermost_15 rfl fl_X1_40 (by decide) (by assumption) ?_
  refine wl_iconst (np := 19) (v := 1) dX1_swapOutermost_18 rfl (rfl) ?_
  refine wl_isub (np := 20) dX1_swapOutermost_19 rfl ?_
  refine cvS_4 (np := 23) dX1_swapOutermost_20 rfl lk_X1_67 (Nat.le_of_ble_eq_true rfl) (by omega) (Nat.le_refl _) (Nat.le_refl _) (by rw [hw, hw2, n1, n3]; exact c_swapItems s1 t1 (by omega) (by omega) (by decide) (by decide)) (fun m_20 h_20 => ?_)
  have q_20 := h_20.symm
  subst q_20
  have a1 := g1 me (q + 1) (n - 1) (gI me (q2 + 1) (n2 - 1)) (q2 + 1) (n2 - 1) (gI me (q + 1) (n - 1)) (by omega) (by omega) hw
  have b1 := g2 me (q + 1) (n - 1) (gI me (q2 + 1) (n2 - 1)) (q2 + 1) (n2 - 1) (gI me (q + 1) (n - 1)) (by omega) (by omega) hw2
  generalize hm1 : uI (uI me (q + 1) (n - 1) (gI me (q2 + 1) (n2 - 1))) (q2 + 1) (n2 - 1) (gI me (q + 1) (n - 1)) = m1 at a1 b1 ⊢
  have p1 : m1.2 = me.2 := by rw [← hm1]; rfl
  refine ld_a0 (np := 24) dX1_swapOutermost_23 rfl ?_
  refine wl_getr (np := 27) dX1_swapOutermost_24 rfl fl_X1_15 rfl (by assumption) (by rw [gR, p1]; assumption) ?_
  refine ld_a0 (np := 28) dX1_swapOutermost_27 rfl ?_
  refine wl_geti (np := 31) dX1_swapOutermost_28 rfl fl_X1_40 (by decide) (by assumption) ?_
  refine wl_iconst (np := 32) (v := 1) dX1_swapOutermost_31 rfl (rfl) ?_
  refine wl_isub (np := 33) dX1_swapOutermost_32 rfl ?_
  refine ld_a1 (np := 34) dX1_swapOutermost_33 rfl ?_
  refine wl_getr (np := 37) dX1_swapOutermost_34 rfl fl_X1_15 rfl (by assumption) (by rw [gR, p1]; assumption) ?_
  refine ld_a1 (np := 38) dX1_swapOutermost_37 rfl ?_
  refine wl_geti (np := 41) dX1_swapOutermost_38 rfl fl_X1_40 (by decide) (by assumption) ?_
  refine wl_iconst (np := 42) (v := 1) dX1_swapOutermost_41 rfl (rfl) ?_
  refine wl_isub (np := 43) dX1_swapOutermost_42 rfl ?_
  refine cvS_4 (np := 46) dX1_swapOutermost_43 rfl lk_X1_67 (Nat.le_of_ble_eq_true rfl) (by omega) (Nat.le_refl _) (Nat.le_refl _) (by rw [a1, b1, n1, n3]; exact c_swapItems s2 t2 (by omega) (by omega) (by decide) (by decide)) (fun m_43 h_43 => ?_)
  have q_43 := h_43.symm
  subst q_43
  have a2 := g1 m1 (q + 2) (n - 1) (gI m1 (q2 + 2) (n2 - 1)) (q2 + 2) (n2 - 1) (gI m1 (q + 2) (n - 1)) (by omega) (by omega) a1
  have b2 := g2 m1 (q + 2) (n - 1) (gI m1 (q2 + 2) (n2 - 1)) (q2 + 2) (n2 - 1) (gI m1 (q + 2) (n - 1)) (by omega) (by omega) b1
  generalize hm2 : uI (uI m1 (q + 2) (n - 1) (gI m1 (q2 + 2) (n2 - 1))) (q2 + 2) (n2 - 1) (gI m1 (q + 2) (n - 1)) = m2 at a2 b2 ⊢
  have p2 : m2.2 = me.2 := by rw [← hm2]; exact p1
  refine ld_a0 (np := 47) dX1_swapOutermost_46 rfl ?_
  refine wl_getr (np := 50) dX1_swapOutermost_47 rfl fl_X1_18 rfl (by assumption) (by rw [gR, p2]; assumption) ?_
  refine ld_a0 (np := 51) dX1_swapOutermost_50 rfl ?_
  refine wl_geti (np := 54) dX1_swapOutermost_51 rfl fl_X1_40 (by decide) (by assumption) ?_
  refine wl_iconst (np := 55) (v := 1) dX1_swapOutermost_54 rfl (rfl) ?_
  refine wl_isub (np := 56) dX1_swapOutermost_55 rfl ?_
  refine ld_a1 (np := 57) dX1_swapOutermost_56 rfl ?_
  refine wl_getr (np := 60) dX1_swapOutermost_57 rfl fl_X1_18 rfl (by assumption) (by rw [gR, p2]; assumption) ?_
  refine ld_a1 (np := 61) dX1_swapOutermost_60 rfl ?_
  refine wl_geti (np := 64) dX1_swapOutermost_61 rfl fl_X1_40 (by decide) (by assumption) ?_
  refine wl_iconst (np := 65) (v := 1) dX1_swapOutermost_64 rfl (rfl) ?_
  refine wl_isub (np := 66) dX1_swapOutermost_65 rfl ?_
  refine cvS_4 (np := 69) dX1_swapOutermost_66 rfl lk_X1_67 (Nat.le_of_ble_eq_true rfl) (by omega) (Nat.le_refl _) (Nat.le_refl _) (by rw [a2, b2, n1, n3]; exact c_swapItems s3 t3 (by omega) (by omega) (by decide) (by decide)) (fun m_66 h_66 => ?_)
  have q_66 := h_66.symm
  subst q_66
  have a3 := g1 m2 (q + 3) (n - 1) (gI m2 (q2 + 3) (n2 - 1)) (q2 + 3) (n2 - 1) (gI m2 (q + 3) (n - 1)) (by omega) (by omega) a2
  have b3 := g2 m2 (q + 3) (n - 1) (gI m2 (q2 + 3) (n2 - 1)) (q2 + 3) (n2 - 1) (gI m2 (q + 3) (n - 1)) (by omega) (by omega) b2
  generalize hm3 : uI (uI m2 (q + 3) (n - 1) (gI m2 (q2 + 3) (n2 - 1))) (q2 + 3) (n2 - 1) (gI m2 (q + 3) (n - 1)) = m3 at a3 b3 ⊢
  have p3 : m3.2 = me.2 := by rw [← hm3]; exact p2
  refine ld_a0 (np := 70) dX1_swapOutermost_69 rfl ?_
  refine wl_getr (np := 73) dX1_swapOutermost_70 rfl fl_X1_21 rfl (by assumption) (by rw [gR, p3]; assumption) ?_
  refine ld_a0 (np := 74) dX1_swapOutermost_73 rfl ?_
  refine wl_geti (np := 77) dX1_swapOutermost_74 rfl fl_X1_40 (by decide) (by assumption) ?_
  refine wl_iconst (np := 78) (v := 1) dX1_swapOutermost_77 rfl (rfl) ?_
  refine wl_isub (np := 79) dX1_swapOutermost_78 rfl ?_
  refine ld_a1 (np := 80) dX1_swapOutermost_79 rfl ?_
  refine wl_getr (np := 83) dX1_swapOutermost_80 rfl fl_X1_21 rfl (by assumption) (by rw [gR, p3]; assumption) ?_
  refine ld_a1 (np := 84) dX1_swapOutermost_83 rfl ?_
  refine wl_geti (np := 87) dX1_swapOutermost_84 rfl fl_X1_40 (by decide) (by assumption) ?_
  refine wl_iconst (np := 88) (v := 1) dX1_swapOutermost_87 rfl (rfl) ?_
  refine wl_isub (np := 89) dX1_swapOutermost_88 rfl ?_
  refine cvS_4 (np := 92) dX1_swapOutermost_89 rfl lk_X1_67 (Nat.le_of_ble_eq_true rfl) (by omega) (Nat.le_refl _) (Nat.le_refl _) (by rw [a3, b3, n1, n3]; exact c_swapItems s4 t4 (by omega) (by omega) (by decide) (by decide)) (fun m_89 h_89 => ?_)
  have q_89 := h_89.symm
  subst q_89
  refine wv_ret dX1_swapOutermost_92 rfl (Nat.le_refl _) (Nat.le_refl _) ?_
  clear s0 s1 s2 s3 s4 s5 r0 r1 r2 r3 r4 t0 t1 t2 t3 t4 t5 u0 u1 u2 u3 u4 a1 a2 a3 b1 b2 b3 g1 g2 hw hw2 n1 n3
  apply mem_ext
  · intro a b
    subst hm3 hm2 hm1
    simp only [gI_uI, swapM, g_def, g_raw]
    by_cases h1 : a = q + 1
    · subst h1; grind (splits := 20)
    by_cases h2 : a = q + 2
    · subst h2; grind (splits := 20)
    by_cases h3 : a = q + 3
    · subst h3; grind (splits := 20)
    by_cases h4 : a = q + 4
    · subst h4; grind (splits := 20)
    by_cases h5 : a = q2 + 1
    · subst h5; grind (splits := 20)
    by_cases h6 : a = q2 + 2
    · subst h6; grind (splits := 20)
    by_cases h7 : a = q2 + 3
    · subst h7; grind (splits := 20)
    by_cases h8 : a = q2 + 4
    · subst h8; grind (splits := 20)
    grind (splits := 20)
  · exact p3
set_option maxHeartbeats 4000000 in
set_option maxRecDepth 100000 in
theorem c_passNight (hq : isP sh me q) (hw : gI me q 5 = nI n) (hn : n ≤ 8) (hl : ∀ c, c < n → ∃ l, l < 5 ∧ gI me (q + 1) c = nI l) (hd : 2 ≤ d) : CV d mX1_passNight sh [.ref q] me (fun m => m = nightM me q n) := by
  obtain ⟨s0, s1, s2, s3, s4, s5, r0, r1, r2, r3, r4⟩ := hq
  have gg : ∀ i a b, a ≠ q + 2 → gI (growM me q i) a b = gI me a b := fun i a b h => by
    simp only [growM, g_def, g_raw]; rw [if_neg (by omega)]
  have g2 : ∀ i, gI (growM me q i) (q + 2) i = gI me (q + 2) i := fun i => by
    simp only [growM, g_def, g_raw]; rw [if_neg (by omega)]
  have key : ∀ fuel i, n - i < fuel → i ≤ n → Wa mX1_passNight (0, fun _ => 0) d 0 0 sh.length (PV sh (fun m => m = nightM me q n)) 4 [.ref q, .int (sumF (taxF me q) i), .int (nI i)] [] sh (growM me q i) 0 0 := by
    intro fuel
    induction fuel with
    | zero => intro i h; omega
    | succ fuel ih =>
      intro i hi hin
      refine ld_i2 (np := 5) dX1_passNight_4 rfl ?_
      refine ld_a0 (np := 6) dX1_passNight_5 rfl ?_
      refine wl_geti (np := 9) dX1_passNight_6 rfl fl_X1_40 (by decide) (by assumption) ?_
      refine wl_icmp_ge (np := 12) (tg := 53) dX1_passNight_9 rfl rfl (fun c_9 => ?_) (fun c_9 => ?_)
      · rw [gg _ _ _ (by omega), hw, nI_le_iff (by omega) (by omega)] at c_9
        refine ld_a0 (np := 54) dX1_passNight_53 rfl ?_
        refine ld_a0 (np := 55) dX1_passNight_54 rfl ?_
        refine wl_geti (np := 58) dX1_passNight_55 rfl fl_X1_27 (by decide) (by assumption) ?_
        refine ld_a0 (np := 59) dX1_passNight_58 rfl ?_
        refine wl_geti (np := 62) dX1_passNight_59 rfl fl_X1_31 (by decide) (by assumption) ?_
        refine ld_i1 (np := 63) dX1_passNight_62 rfl ?_
        refine ciSN_3 (np := 66) dX1_passNight_63 rfl lk_X1_75 (Nat.le_of_ble_eq_true rfl) (by omega) (Nat.le_refl _) (Nat.le_refl _) (c_purseNextDay _ _ _ (by omega)) (fun x_63 m_63 h_63 => ?_)
        obtain ⟨rfl, q_63⟩ := h_63
        have q_63 := q_63.symm
        subst q_63
        refine wl_puti (np := 69) dX1_passNight_66 rfl fl_X1_27 nf_1_6 rfl (by assumption) ?_
        refine wv_ret dX1_passNight_69 rfl (Nat.le_refl _) (Nat.le_refl _) ?_
        rw [gg _ _ _ (by omega), gg _ _ _ (by omega), show i = n by omega]
        rfl
      · rw [gg _ _ _ (by omega), hw, nI_le_iff (by omega) (by omega)] at c_9
        obtain ⟨lq, hlq, el⟩ := hl i (by omega)
        refine ld_a0 (np := 13) dX1_passNight_12 rfl ?_
        refine wl_getr (np := 16) dX1_passNight_13 rfl fl_X1_15 rfl (by assumption) (by assumption) ?_
        refine ld_i2 (np := 17) dX1_passNight_16 rfl ?_
        refine ld_a0 (np := 18) dX1_passNight_17 rfl ?_
        refine wl_getr (np := 21) dX1_passNight_18 rfl fl_X1_15 rfl (by assumption) (by assumption) ?_
        refine ld_i2 (np := 22) dX1_passNight_21 rfl ?_
        refine wl_iaload (np := 23) dX1_passNight_22 rfl (inA_n s2 (by omega) (by decide)) ?_
        refine ld_a0 (np := 24) dX1_passNight_23 rfl ?_
        refine wl_getr (np := 27) dX1_passNight_24 rfl fl_X1_18 rfl (by assumption) (by assumption) ?_
        refine ld_i2 (np := 28) dX1_passNight_27 rfl ?_
        refine wl_iaload (np := 29) dX1_passNight_28 rfl (inA_n s3 (by omega) (by decide)) ?_
        refine ciSN_2 (np := 32) dX1_passNight_29 rfl lk_X1_71 (Nat.le_of_ble_eq_true rfl) (by omega) (Nat.le_refl _) (Nat.le_refl _) (c_amountNextDay _ _ (by omega)) (fun x_29 m_29 h_29 => ?_)
        obtain ⟨rfl, q_29⟩ := h_29
        have q_29 := q_29.symm
        subst q_29
        refine wl_iastore (np := 33) dX1_passNight_32 rfl (inA_n s2 (by omega) (by decide)) ?_
        rw [nI_clamp (by omega), g2, gg _ (q + 3) _ (by omega)]
        have e1 : uI (growM me q i) (q + 2) i (growI (gI me (q + 2) i) (gI me (q + 3) i)) = growM me q (i + 1) := by
          apply mem_ext
          · intro a b
            simp only [gI_uI, growM, g_def, g_raw]
            clear s0 s1 s2 s3 s4 s5 r0 r1 r2 r3 r4 ih gg g2 hw hl
            grind (splits := 20)
          · rfl
        rw [e1]
        have e2 : gI (growM me q (i + 1)) (q + 1) (nI i).toNatClampNeg = nI lq := by rw [nI_clamp (by omega), gg _ _ _ (by omega)]; exact el
        refine ld_i1 (np := 34) dX1_passNight_33 rfl ?_
        refine ld_a0 (np := 35) dX1_passNight_34 rfl ?_
        refine wl_getr (np := 38) dX1_passNight_35 rfl fl_X1_24 rfl (by assumption) (by assumption) ?_
        refine ld_a0 (np := 39) dX1_passNight_38 rfl ?_
        refine wl_getr (np := 42) dX1_passNight_39 rfl fl_X1_9 rfl (by assumption) (by assumption) ?_
        refine ld_i2 (np := 43) dX1_passNight_42 rfl ?_
        refine wl_iaload (np := 44) dX1_passNight_43 rfl (inA_n s1 (by omega) (by decide)) ?_
        refine wl_iaload (np := 45) dX1_passNight_44 rfl (e2 ▸ inA_n s5 hlq (by decide)) ?_
        refine wl_iadd (np := 46) dX1_passNight_45 rfl ?_
        refine st_i1 (np := 47) dX1_passNight_46 rfl (by decide) rfl ?_
        refine inc_2 (np := 50) (v := _ + 1) dX1_passNight_47 rfl rfl (by decide) rfl ?_
        refine wl_goto (tg := 4) dX1_passNight_50 rfl ?_
        rw [gg _ _ _ (by omega), gg _ _ _ (by omega), nI_clamp (by omega), ← nI_succ]
        exact ih (i + 1) (by omega) (by omega)
  refine CV.mk (L := [.ref q, .float 0, .float 0]) (by decide) (Nat.le_of_ble_eq_true rfl) rfl ?_
  refine wl_iconst (np := 1) (v := 0) dX1_passNight_0 rfl (rfl) ?_
  refine st_i1 (np := 2) dX1_passNight_1 rfl (by decide) rfl ?_
  refine wl_iconst (np := 3) (v := 0) dX1_passNight_2 rfl (rfl) ?_
  refine st_i2 (np := 4) dX1_passNight_3 rfl (by decide) rfl ?_
  have e0 : growM me q 0 = me := by
    apply mem_ext
    · intro a b
      simp only [growM, g_def, g_raw]
      rw [if_neg (by omega)]
    · rfl
  have h := key (n + 1) 0 (by omega) (by omega)
  rw [e0] at h
  exact h
set_option maxHeartbeats 4000000 in
set_option maxRecDepth 100000 in
theorem c_isOver (heat : Int32) (hq : isP sh me q) (hw : gI me q 5 = nI n) (hn : n ≤ 8) (hd : 1 ≤ d) : CI d mX1_isOverburdened sh [.ref q, .int heat] me (fun x m => (x = 1 ∧ hotP me q n heat ∨ x = 0 ∧ ¬ hotP me q n heat) ∧ m = me) := by
  have hqs := hq
  obtain ⟨s0, s1, s2, s3, s4, s5, r0, r1, r2, r3, r4⟩ := hq
  refine CI.mk (L := [.ref q, .int heat]) (by decide) (Nat.le_of_ble_eq_true rfl) rfl ?_
  refine ld_a0 (np := 1) dX1_isOverburdened_0 rfl ?_
  refine ciV_0 (np := 4) dX1_isOverburdened_1 rfl lk_X1_79 (by assumption) (Nat.le_of_ble_eq_true rfl) (by omega) (Nat.le_refl _) (Nat.le_refl _) (c_thick hqs hw hn) (fun x_1 m_1 h_1 => ?_)
  obtain ⟨rfl, q_1⟩ := h_1
  have q_1 := q_1.symm
  subst q_1
  refine ld_a0 (np := 5) dX1_isOverburdened_4 rfl ?_
  refine wl_geti (np := 8) dX1_isOverburdened_5 rfl fl_X1_34 (by decide) (by assumption) ?_
  refine ld_i1 (np := 9) dX1_isOverburdened_8 rfl ?_
  refine wl_isub (np := 10) dX1_isOverburdened_9 rfl ?_
  refine wl_iconst (np := 11) (v := 0) dX1_isOverburdened_10 rfl (rfl) ?_
  refine wl_max (np := 14) dX1_isOverburdened_11 rfl lk_X1_83 (Nat.le_of_ble_eq_true rfl) (by omega) (Nat.le_refl _) (Nat.le_refl _) ?_
  refine wl_icmp_le (np := 17) (tg := 21) dX1_isOverburdened_14 rfl rfl (fun c_14 => ?_) (fun c_14 => ?_)
  · refine wl_iconst (np := 22) (v := 0) dX1_isOverburdened_21 rfl (rfl) ?_
    refine wi_ret dX1_isOverburdened_22 rfl (by decide) (Nat.le_refl _) (Nat.le_refl _) ?_
    exact ⟨Or.inr ⟨rfl, Int32.not_lt.mpr c_14⟩, rfl⟩
  · refine wl_iconst (np := 18) (v := 1) dX1_isOverburdened_17 rfl (rfl) ?_
    refine wl_goto (tg := 22) dX1_isOverburdened_18 rfl ?_
    refine wi_ret dX1_isOverburdened_22 rfl (by decide) (Nat.le_refl _) (Nat.le_refl _) ?_
    exact ⟨Or.inl ⟨rfl, Int32.not_le.mp c_14⟩, rfl⟩
end PERSON
