/-! ===== sums ===== -/
def sumF (f : Nat → Int32) : Nat → Int32
  | 0 => 0
  | n + 1 => sumF f n + f n
theorem inA_n {sh : List Shp} {k n i : Nat} (h : sh[k]? = some (.inr (0, n))) (hi : i < n) (hn : n < 2 ^ 31) : inA sh k (nI i) := ⟨n, h, vp_in_nI hi hn⟩
theorem nI_le_iff {a b : Nat} (ha : a < 2 ^ 31) (hb : b < 2 ^ 31) : nI a ≤ nI b ↔ a ≤ b := by
  rw [Int32.le_iff_toInt_le, nI_toInt ha, nI_toInt hb]; omega
theorem nI_lt_iff {a b : Nat} (ha : a < 2 ^ 31) (hb : b < 2 ^ 31) : nI a < nI b ↔ a < b := by
  rw [Int32.lt_iff_toInt_lt, nI_toInt ha, nI_toInt hb]; omega
/-- a person's cells: the object, its five rows -/
def isP (sh : List Shp) (me : Mem) (q : Nat) : Prop := sh[q]? = some (.inl 1) ∧ sh[q + 1]? = some (.inr (0, 8)) ∧ sh[q + 2]? = some (.inr (0, 8)) ∧ sh[q + 3]? = some (.inr (0, 8)) ∧ sh[q + 4]? = some (.inr (0, 8)) ∧ sh[q + 5]? = some (.inr (0, 5)) ∧
  gR me q 0 = some (q + 1) ∧ gR me q 1 = some (q + 2) ∧ gR me q 2 = some (q + 3) ∧ gR me q 3 = some (q + 4) ∧ gR me q 4 = some (q + 5)
section PERSON
variable {sh : List Shp} {me : Mem} {d q n : Nat}
set_option maxHeartbeats 4000000 in
set_option maxRecDepth 100000 in
theorem l_thick {n0 : Nat} (hq : isP sh me q) (hw : gI me q 5 = nI n) (hn : n ≤ 8) (fuel : Nat) : ∀ i, n - i < fuel → i ≤ n → Wa mX1_thickTogether (0, fun _ => 0) d 0 0 n0 (PI sh (fun x m => x = sumF (gI me (q + 4)) n ∧ m = me)) 4 [.ref q, .int (sumF (gI me (q + 4)) i), .int (nI i)] [] sh me 0 0 := by
  obtain ⟨s0, s1, s2, s3, s4, s5, r0, r1, r2, r3, r4⟩ := hq
  induction fuel with
  | zero => intro i h; omega
  | succ fuel ih =>
    intro i hi hin
    refine ld_i2 (np := 5) dX1_thickTogether_4 rfl ?_
    refine ld_a0 (np := 6) dX1_thickTogether_5 rfl ?_
    refine wl_geti (np := 9) dX1_thickTogether_6 rfl fl_X1_40 (by decide) (by assumption) ?_
    refine wl_icmp_ge (np := 12) (tg := 27) dX1_thickTogether_9 rfl rfl (fun c_9 => ?_) (fun c_9 => ?_)
    · refine ld_i1 (np := 28) dX1_thickTogether_27 rfl ?_
      refine wi_ret dX1_thickTogether_28 rfl (rfl) (Nat.le_refl _) (Nat.le_refl _) ?_
      rw [hw, nI_le_iff (by omega) (by omega)] at c_9
      rw [show i = n by omega]
      exact ⟨rfl, rfl⟩
    · rw [hw, nI_le_iff (by omega) (by omega)] at c_9
      refine ld_i1 (np := 13) dX1_thickTogether_12 rfl ?_
      refine ld_a0 (np := 14) dX1_thickTogether_13 rfl ?_
      refine wl_getr (np := 17) dX1_thickTogether_14 rfl fl_X1_21 rfl (by assumption) (by assumption) ?_
      refine ld_i2 (np := 18) dX1_thickTogether_17 rfl ?_
      refine wl_iaload (np := 19) dX1_thickTogether_18 rfl (inA_n s4 (by omega) (by decide)) ?_
      refine wl_iadd (np := 20) dX1_thickTogether_19 rfl ?_
      refine st_i1 (np := 21) dX1_thickTogether_20 rfl (by decide) rfl ?_
      refine inc_2 (np := 24) (v := _ + 1) dX1_thickTogether_21 rfl rfl (by decide) rfl ?_
      refine wl_goto (tg := 4) dX1_thickTogether_24 rfl ?_
      rw [nI_clamp (by omega), ← nI_succ]
      exact ih (i + 1) (by omega) (by omega)
set_option maxHeartbeats 4000000 in
set_option maxRecDepth 100000 in
theorem c_thick (hq : isP sh me q) (hw : gI me q 5 = nI n) (hn : n ≤ 8) : CI d mX1_thickTogether sh [.ref q] me (fun x m => x = sumF (gI me (q + 4)) n ∧ m = me) := by
  refine CI.mk (L := [.ref q, .float 0, .float 0]) (by decide) (Nat.le_of_ble_eq_true rfl) rfl ?_
  refine wl_iconst (np := 1) (v := 0) dX1_thickTogether_0 rfl (rfl) ?_
  refine st_i1 (np := 2) dX1_thickTogether_1 rfl (by decide) rfl ?_
  refine wl_iconst (np := 3) (v := 0) dX1_thickTogether_2 rfl (rfl) ?_
  refine st_i2 (np := 4) dX1_thickTogether_3 rfl (by decide) rfl ?_
  exact l_thick hq hw hn (n + 1) 0 (by omega) (by omega)
end PERSON
