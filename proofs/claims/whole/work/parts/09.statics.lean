/-! ===== the static helpers ===== -/
def b2i (P : Prop) [Decidable P] : Int32 := if P then 1 else 0
theorem b2i_t {P : Prop} [Decidable P] (h : P) : b2i P = 1 := if_pos h
theorem b2i_f {P : Prop} [Decidable P] (h : ¬ P) : b2i P = 0 := if_neg h
theorem b2i_narrow (P : Prop) [Decidable P] : narrow .boolean (.int (b2i P)) = .int (b2i P) := by
  by_cases h : P
  · rw [b2i_t h]; decide
  · rw [b2i_f h]; decide
theorem b2i_fits (P : Prop) [Decidable P] : fits .boolean (.int (b2i P)) = true := by
  by_cases h : P
  · rw [b2i_t h]; decide
  · rw [b2i_f h]; decide
theorem b2i_eq0 {P : Prop} [Decidable P] : b2i P = 0 ↔ ¬ P := by
  by_cases h : P
  · rw [b2i_t h]; exact ⟨fun q => absurd q (by decide), fun q => absurd h q⟩
  · rw [b2i_f h]; exact ⟨fun _ => h, fun _ => rfl⟩
theorem mem_ext {m m' : Mem} (h1 : ∀ a b, gI m a b = gI m' a b) (h2 : m.2 = m'.2) : m = m' := by
  obtain ⟨i1, r1⟩ := m
  obtain ⟨i2, r2⟩ := m'
  have e1 : i1 = i2 := funext fun a => funext fun b => h1 a b
  have e2 : r1 = r2 := h2
  rw [e1, e2]
section STATICS
variable {sh : List Shp} {me : Mem} {d : Nat}
set_option maxHeartbeats 4000000 in
set_option maxRecDepth 100000 in
theorem c_isWithin (v a b : Int32) : CI d mX6_isWithin sh [.int v, .int a, .int b] me (fun x m => x = (if a ≤ v ∧ v ≤ b then 1 else 0) ∧ m = me) := by
  refine CI.mk (L := [.int v, .int a, .int b]) (by decide) (Nat.le_of_ble_eq_true rfl) rfl ?_
  refine ld_i0 (np := 1) dX6_isWithin_0 rfl ?_
  refine ld_i1 (np := 2) dX6_isWithin_1 rfl ?_
  refine wl_icmp_lt (np := 5) (tg := 14) dX6_isWithin_2 rfl rfl (fun c_2 => ?_) (fun c_2 => ?_)
  · refine wl_iconst (np := 15) (v := 0) dX6_isWithin_14 rfl (rfl) ?_
    refine wi_ret dX6_isWithin_15 rfl (by decide) (Nat.le_refl _) (Nat.le_refl _) ?_
    exact ⟨by rw [if_neg (fun h => Int32.not_lt.mpr h.1 c_2)], rfl⟩
  · refine ld_i0 (np := 6) dX6_isWithin_5 rfl ?_
    refine ld_i2 (np := 7) dX6_isWithin_6 rfl ?_
    refine wl_icmp_gt (np := 10) (tg := 14) dX6_isWithin_7 rfl rfl (fun c_7 => ?_) (fun c_7 => ?_)
    · refine wl_iconst (np := 15) (v := 0) dX6_isWithin_14 rfl (rfl) ?_
      refine wi_ret dX6_isWithin_15 rfl (by decide) (Nat.le_refl _) (Nat.le_refl _) ?_
      exact ⟨by rw [if_neg (fun h => Int32.not_lt.mpr h.2 c_7)], rfl⟩
    · refine wl_iconst (np := 11) (v := 1) dX6_isWithin_10 rfl (rfl) ?_
      refine wl_goto (tg := 15) dX6_isWithin_11 rfl ?_
      refine wi_ret dX6_isWithin_15 rfl (by decide) (Nat.le_refl _) (Nat.le_refl _) ?_
      exact ⟨by rw [if_pos ⟨Int32.not_lt.mp c_2, Int32.not_lt.mp c_7⟩], rfl⟩
theorem wi_nar {P : Prop} [Decidable P] : narrow .boolean (.int (if P then 1 else 0)) = .int (if P then 1 else 0) := b2i_narrow P
set_option maxHeartbeats 4000000 in
set_option maxRecDepth 100000 in
theorem c_isLender (v : Int32) (hd : 1 ≤ d) : CI d mX6_isLender sh [.int v] me (fun x m => x = (if 0 ≤ v ∧ v ≤ 4 then 1 else 0) ∧ m = me) := by
  refine CI.mk (L := [.int v]) (by decide) (Nat.le_of_ble_eq_true rfl) rfl ?_
  refine ld_i0 (np := 1) dX6_isLender_0 rfl ?_
  refine wl_iconst (np := 2) (v := 0) dX6_isLender_1 rfl (rfl) ?_
  refine wl_iconst (np := 3) (v := 4) dX6_isLender_2 rfl (rfl) ?_
  refine ciS_3 (np := 6) dX6_isLender_3 rfl lk_X6_61 (Nat.le_of_ble_eq_true rfl) (by omega) (Nat.le_refl _) (Nat.le_refl _) (c_isWithin _ _ _) (fun x_3 m_3 h_3 => ?_)
  obtain ⟨rfl, q_3⟩ := h_3
  have q_3 := q_3.symm
  subst q_3
  refine wi_ret dX6_isLender_6 rfl (wi_nar) (Nat.le_refl _) (Nat.le_refl _) ?_
  exact ⟨rfl, rfl⟩
set_option maxHeartbeats 4000000 in
set_option maxRecDepth 100000 in
theorem c_isSheet (v : Int32) (hd : 1 ≤ d) : CI d mX6_isSheet sh [.int v] me (fun x m => x = (if 0 ≤ v ∧ v ≤ 3 then 1 else 0) ∧ m = me) := by
  refine CI.mk (L := [.int v]) (by decide) (Nat.le_of_ble_eq_true rfl) rfl ?_
  refine ld_i0 (np := 1) dX6_isSheet_0 rfl ?_
  refine wl_iconst (np := 2) (v := 0) dX6_isSheet_1 rfl (rfl) ?_
  refine wl_iconst (np := 3) (v := 3) dX6_isSheet_2 rfl (rfl) ?_
  refine ciS_3 (np := 6) dX6_isSheet_3 rfl lk_X6_61 (Nat.le_of_ble_eq_true rfl) (by omega) (Nat.le_refl _) (Nat.le_refl _) (c_isWithin _ _ _) (fun x_3 m_3 h_3 => ?_)
  obtain ⟨rfl, q_3⟩ := h_3
  have q_3 := q_3.symm
  subst q_3
  refine wi_ret dX6_isSheet_6 rfl (wi_nar) (Nat.le_refl _) (Nat.le_refl _) ?_
  exact ⟨rfl, rfl⟩
set_option maxHeartbeats 4000000 in
set_option maxRecDepth 100000 in
theorem c_isLane (v : Int32) (hd : 1 ≤ d) : CI d mX6_isLane sh [.int v] me (fun x m => x = (if 0 ≤ v ∧ v ≤ 2 then 1 else 0) ∧ m = me) := by
  refine CI.mk (L := [.int v]) (by decide) (Nat.le_of_ble_eq_true rfl) rfl ?_
  refine ld_i0 (np := 1) dX6_isLane_0 rfl ?_
  refine wl_iconst (np := 2) (v := 0) dX6_isLane_1 rfl (rfl) ?_
  refine wl_iconst (np := 3) (v := 2) dX6_isLane_2 rfl (rfl) ?_
  refine ciS_3 (np := 6) dX6_isLane_3 rfl lk_X6_61 (Nat.le_of_ble_eq_true rfl) (by omega) (Nat.le_refl _) (Nat.le_refl _) (c_isWithin _ _ _) (fun x_3 m_3 h_3 => ?_)
  obtain ⟨rfl, q_3⟩ := h_3
  have q_3 := q_3.symm
  subst q_3
  refine wi_ret dX6_isLane_6 rfl (wi_nar) (Nat.le_refl _) (Nat.le_refl _) ?_
  exact ⟨rfl, rfl⟩
set_option maxHeartbeats 4000000 in
set_option maxRecDepth 100000 in
theorem c_isIn (s k : Int32) : CI d mX6_isIn sh [.int s, .int k] me (fun x m => x = (if (s >>> (k &&& 31)) &&& 1 = 0 then 0 else 1) ∧ m = me) := by
  refine CI.mk (L := [.int s, .int k]) (by decide) (Nat.le_of_ble_eq_true rfl) rfl ?_
  refine ld_i0 (np := 1) dX6_isIn_0 rfl ?_
  refine ld_i1 (np := 2) dX6_isIn_1 rfl ?_
  refine wl_ishr (np := 3) dX6_isIn_2 rfl ?_
  refine wl_iconst (np := 4) (v := 1) dX6_isIn_3 rfl (rfl) ?_
  refine wl_iand (np := 5) dX6_isIn_4 rfl ?_
  refine wl_if_eq (np := 8) (tg := 12) dX6_isIn_5 rfl rfl (fun c_5 => ?_) (fun c_5 => ?_)
  · refine wl_iconst (np := 13) (v := 0) dX6_isIn_12 rfl (rfl) ?_
    refine wi_ret dX6_isIn_13 rfl (by decide) (Nat.le_refl _) (Nat.le_refl _) ?_
    exact ⟨by rw [if_pos c_5], rfl⟩
  · refine wl_iconst (np := 9) (v := 1) dX6_isIn_8 rfl (rfl) ?_
    refine wl_goto (tg := 13) dX6_isIn_9 rfl ?_
    refine wi_ret dX6_isIn_13 rfl (by decide) (Nat.le_refl _) (Nat.le_refl _) ?_
    exact ⟨by rw [if_neg c_5], rfl⟩
def innerC (ws c : Int32) : Prop := ws &&& ((1 <<< (c &&& 31)) - 1) = 0
def outerC (ws c : Int32) : Prop := ws >>> ((c + 1) &&& 31) = 0
/-- by the law off, may the coat c of the set be the next -/
def mayC (off ws c : Int32) : Prop := if off = 0 then outerC ws c else if off = 1 then innerC ws c else (¬ innerC ws c ∨ outerC ws c)
theorem mayC_0 {off ws c x : Int32} (h : off = 0) (hx : x = 1 ∧ outerC ws c ∨ x = 0 ∧ ¬ outerC ws c) : x = 1 ∧ mayC off ws c ∨ x = 0 ∧ ¬ mayC off ws c := by
  unfold mayC; rw [if_pos h]; exact hx
set_option maxHeartbeats 4000000 in
set_option maxRecDepth 100000 in
theorem c_mayComeOff (off ws c : Int32) : CI d mX6_mayComeOff sh [.int off, .int ws, .int c] me (fun x m => (x = 1 ∧ mayC off ws c ∨ x = 0 ∧ ¬ mayC off ws c) ∧ m = me) := by
  refine CI.mk (L := [.int off, .int ws, .int c, .float 0, .float 0]) (by decide) (Nat.le_of_ble_eq_true rfl) rfl ?_
  have k29 : ∀ x3 x4 : Int32, (x3 = 1 ∧ innerC ws c ∨ x3 = 0 ∧ ¬ innerC ws c) → (x4 = 1 ∧ outerC ws c ∨ x4 = 0 ∧ ¬ outerC ws c) → Wa mX6_mayComeOff (0, fun _ => 0) d 0 0 sh.length (PI sh (fun x m => (x = 1 ∧ mayC off ws c ∨ x = 0 ∧ ¬ mayC off ws c) ∧ m = me)) 29 [.int off, .int ws, .int c, .int x3, .float 0] [.int x4] sh me 0 0 := by
    intro x3 x4 h3 h4
    have n3 : narrow .boolean (.int x3) = .int x3 := by rcases h3 with ⟨rfl, -⟩ | ⟨rfl, -⟩ <;> decide
    have n4 : narrow .boolean (.int x4) = .int x4 := by rcases h4 with ⟨rfl, -⟩ | ⟨rfl, -⟩ <;> decide
    refine st_i4 (np := 31) dX6_mayComeOff_29 rfl (by decide) rfl ?_
    refine ld_i0 (np := 32) dX6_mayComeOff_31 rfl ?_
    refine wl_if_ne (np := 35) (tg := 38) dX6_mayComeOff_32 rfl rfl (fun c_32 => ?_) (fun c_32 => ?_)
    · refine ld_i0 (np := 39) dX6_mayComeOff_38 rfl ?_
      refine wl_iconst (np := 40) (v := 1) dX6_mayComeOff_39 rfl (rfl) ?_
      refine wl_icmp_ne (np := 43) (tg := 45) dX6_mayComeOff_40 rfl rfl (fun c_40 => ?_) (fun c_40 => ?_)
      · refine ld_i3 (np := 46) dX6_mayComeOff_45 rfl ?_
        refine wl_if_eq (np := 49) (tg := 54) dX6_mayComeOff_46 rfl rfl (fun c_46 => ?_) (fun c_46 => ?_)
        · refine wl_iconst (np := 55) (v := 1) dX6_mayComeOff_54 rfl (rfl) ?_
          refine wl_goto (tg := 59) dX6_mayComeOff_55 rfl ?_
          refine wi_ret dX6_mayComeOff_59 rfl (by decide) (Nat.le_refl _) (Nat.le_refl _) ?_
          refine ⟨Or.inl ⟨rfl, ?_⟩, rfl⟩
          unfold mayC
          rw [if_neg c_32, if_neg c_40]
          rcases h3 with ⟨rfl, -⟩ | ⟨rfl, h⟩
          · exact absurd c_46 (by decide)
          · exact Or.inl h
        · refine ld_i4 (np := 51) dX6_mayComeOff_49 rfl ?_
          refine wl_if_eq (np := 54) (tg := 58) dX6_mayComeOff_51 rfl rfl (fun c_51 => ?_) (fun c_51 => ?_)
          · refine wl_iconst (np := 59) (v := 0) dX6_mayComeOff_58 rfl (rfl) ?_
            refine wi_ret dX6_mayComeOff_59 rfl (by decide) (Nat.le_refl _) (Nat.le_refl _) ?_
            refine ⟨Or.inr ⟨rfl, ?_⟩, rfl⟩
            unfold mayC
            rw [if_neg c_32, if_neg c_40]
            rcases h3 with ⟨rfl, h⟩ | ⟨rfl, -⟩
            · rcases h4 with ⟨rfl, -⟩ | ⟨rfl, h'⟩
              · exact absurd c_51 (by decide)
              · exact fun q => q.elim (fun q => q h) h'
            · exact absurd rfl c_46
          · refine wl_iconst (np := 55) (v := 1) dX6_mayComeOff_54 rfl (rfl) ?_
            refine wl_goto (tg := 59) dX6_mayComeOff_55 rfl ?_
            refine wi_ret dX6_mayComeOff_59 rfl (by decide) (Nat.le_refl _) (Nat.le_refl _) ?_
            refine ⟨Or.inl ⟨rfl, ?_⟩, rfl⟩
            unfold mayC
            rw [if_neg c_32, if_neg c_40]
            rcases h4 with ⟨rfl, h⟩ | ⟨rfl, -⟩
            · exact Or.inr h
            · exact absurd rfl c_51
      · refine ld_i3 (np := 44) dX6_mayComeOff_43 rfl ?_
        refine wi_ret dX6_mayComeOff_44 rfl (n3) (Nat.le_refl _) (Nat.le_refl _) ?_
        refine ⟨?_, rfl⟩
        unfold mayC
        rw [if_neg c_32, if_pos c_40]
        exact h3
    · refine ld_i4 (np := 37) dX6_mayComeOff_35 rfl ?_
      refine wi_ret dX6_mayComeOff_37 rfl (n4) (Nat.le_refl _) (Nat.le_refl _) ?_
      refine ⟨?_, rfl⟩
      unfold mayC
      rw [if_pos c_32]
      exact h4
  have k15 : ∀ x3 : Int32, (x3 = 1 ∧ innerC ws c ∨ x3 = 0 ∧ ¬ innerC ws c) → Wa mX6_mayComeOff (0, fun _ => 0) d 0 0 sh.length (PI sh (fun x m => (x = 1 ∧ mayC off ws c ∨ x = 0 ∧ ¬ mayC off ws c) ∧ m = me)) 15 [.int off, .int ws, .int c, .float 0, .float 0] [.int x3] sh me 0 0 := by
    intro x3 h3
    refine st_i3 (np := 16) dX6_mayComeOff_15 rfl (by decide) rfl ?_
    refine ld_i1 (np := 17) dX6_mayComeOff_16 rfl ?_
    refine ld_i2 (np := 18) dX6_mayComeOff_17 rfl ?_
    refine wl_iconst (np := 19) (v := 1) dX6_mayComeOff_18 rfl (rfl) ?_
    refine wl_iadd (np := 20) dX6_mayComeOff_19 rfl ?_
    refine wl_ishr (np := 21) dX6_mayComeOff_20 rfl ?_
    refine wl_if_ne (np := 24) (tg := 28) dX6_mayComeOff_21 rfl rfl (fun c_21 => ?_) (fun c_21 => ?_)
    · refine wl_iconst (np := 29) (v := 0) dX6_mayComeOff_28 rfl (rfl) ?_
      exact k29 _ _ h3 (Or.inr ⟨rfl, c_21⟩)
    · refine wl_iconst (np := 25) (v := 1) dX6_mayComeOff_24 rfl (rfl) ?_
      refine wl_goto (tg := 29) dX6_mayComeOff_25 rfl ?_
      exact k29 _ _ h3 (Or.inl ⟨rfl, c_21⟩)
  refine ld_i1 (np := 1) dX6_mayComeOff_0 rfl ?_
  refine wl_iconst (np := 2) (v := 1) dX6_mayComeOff_1 rfl (rfl) ?_
  refine ld_i2 (np := 3) dX6_mayComeOff_2 rfl ?_
  refine wl_ishl (np := 4) dX6_mayComeOff_3 rfl ?_
  refine wl_iconst (np := 5) (v := 1) dX6_mayComeOff_4 rfl (rfl) ?_
  refine wl_isub (np := 6) dX6_mayComeOff_5 rfl ?_
  refine wl_iand (np := 7) dX6_mayComeOff_6 rfl ?_
  refine wl_if_ne (np := 10) (tg := 14) dX6_mayComeOff_7 rfl rfl (fun c_7 => ?_) (fun c_7 => ?_)
  · refine wl_iconst (np := 15) (v := 0) dX6_mayComeOff_14 rfl (rfl) ?_
    exact k15 _ (Or.inr ⟨rfl, c_7⟩)
  · refine wl_iconst (np := 11) (v := 1) dX6_mayComeOff_10 rfl (rfl) ?_
    refine wl_goto (tg := 15) dX6_mayComeOff_11 rfl ?_
    exact k15 _ (Or.inl ⟨rfl, c_7⟩)
def minI (x y : Int32) : Int32 := if y < x then y else x
def maxI (x y : Int32) : Int32 := if x < y then y else x
def growI (a r : Int32) : Int32 := minI (a + a * r / 100) 999999
def purseI (p i t : Int32) : Int32 := minI (maxI (p + i - t) 0) 999999
set_option maxHeartbeats 4000000 in
set_option maxRecDepth 100000 in
theorem c_amountNextDay (a r : Int32) (hd : 1 ≤ d) : CI d mX6_amountNextDay sh [.int a, .int r] me (fun x m => x = growI a r ∧ m = me) := by
  refine CI.mk (L := [.int a, .int r]) (by decide) (Nat.le_of_ble_eq_true rfl) rfl ?_
  refine ld_i0 (np := 1) dX6_amountNextDay_0 rfl ?_
  refine ld_i0 (np := 2) dX6_amountNextDay_1 rfl ?_
  refine ld_i1 (np := 3) dX6_amountNextDay_2 rfl ?_
  refine wl_imul (np := 4) dX6_amountNextDay_3 rfl ?_
  refine wl_bipush (np := 6) (v := 100) dX6_amountNextDay_4 rfl (by decide) ?_
  refine wl_idiv (np := 7) dX6_amountNextDay_6 rfl (by decide) ?_
  refine wl_iadd (np := 8) dX6_amountNextDay_7 rfl ?_
  refine wl_ldc (np := 10) dX6_amountNextDay_8 rfl wk_X6_180 ?_
  refine wl_min (np := 13) dX6_amountNextDay_10 rfl lk_X6_101 (Nat.le_of_ble_eq_true rfl) (by omega) (Nat.le_refl _) (Nat.le_refl _) ?_
  refine wi_ret dX6_amountNextDay_13 rfl (rfl) (Nat.le_refl _) (Nat.le_refl _) ?_
  exact ⟨rfl, rfl⟩
set_option maxHeartbeats 4000000 in
set_option maxRecDepth 100000 in
theorem c_purseNextDay (a r t : Int32) (hd : 1 ≤ d) : CI d mX6_purseNextDay sh [.int a, .int r, .int t] me (fun x m => x = purseI a r t ∧ m = me) := by
  refine CI.mk (L := [.int a, .int r, .int t]) (by decide) (Nat.le_of_ble_eq_true rfl) rfl ?_
  refine ld_i0 (np := 1) dX6_purseNextDay_0 rfl ?_
  refine ld_i1 (np := 2) dX6_purseNextDay_1 rfl ?_
  refine wl_iadd (np := 3) dX6_purseNextDay_2 rfl ?_
  refine ld_i2 (np := 4) dX6_purseNextDay_3 rfl ?_
  refine wl_isub (np := 5) dX6_purseNextDay_4 rfl ?_
  refine wl_iconst (np := 6) (v := 0) dX6_purseNextDay_5 rfl (rfl) ?_
  refine wl_max (np := 9) dX6_purseNextDay_6 rfl lk_X6_299 (Nat.le_of_ble_eq_true rfl) (by omega) (Nat.le_refl _) (Nat.le_refl _) ?_
  refine wl_ldc (np := 11) dX6_purseNextDay_9 rfl wk_X6_180 ?_
  refine wl_min (np := 14) dX6_purseNextDay_11 rfl lk_X6_101 (Nat.le_of_ble_eq_true rfl) (by omega) (Nat.le_refl _) (Nat.le_refl _) ?_
  refine wi_ret dX6_purseNextDay_14 rfl (rfl) (Nat.le_refl _) (Nat.le_refl _) ?_
  exact ⟨rfl, rfl⟩
/-- Arrays.fill of an int array -/
def fillF (f : Nat → Int32) (n : Nat) (x : Int32) : Nat → Int32 := fun j => if j < n then x else f j
set_option maxHeartbeats 4000000 in
set_option maxRecDepth 100000 in
theorem c_fill {a n : Nat} (x : Int32) (hs : sh[a]? = some (.inr (0, n))) (hn : n < 2 ^ 31) : CV d mJ7_fill_53178 sh [.ref a, .int x] me (fun m => m = uA me a (fillF (gI me a) n x)) := by
  have key : ∀ fuel i, n - i < fuel → i ≤ n → Wa mJ7_fill_53178 (0, fun _ => 0) d 0 0 sh.length (PV sh (fun m => m = uA me a (fillF (gI me a) n x))) 5 [.ref a, .int x, .int (nI i), .int (nI n)] [] sh (uA me a (fillF (gI me a) i x)) 0 0 := by
    intro fuel
    induction fuel with
    | zero => intro i h; omega
    | succ fuel ih =>
      intro i hi hin
      refine ld_i2 (np := 6) dJ7_fill_53178_5 rfl ?_
      refine ld_i3 (np := 7) dJ7_fill_53178_6 rfl ?_
      refine wl_icmp_ge (np := 10) (tg := 20) dJ7_fill_53178_7 rfl rfl (fun c_7 => ?_) (fun c_7 => ?_)
      · refine wv_ret dJ7_fill_53178_20 rfl (Nat.le_refl _) (Nat.le_refl _) ?_
        rw [nI_le_iff (by omega) (by omega)] at c_7
        rw [show i = n by omega]
      · rw [nI_le_iff (by omega) (by omega)] at c_7
        refine ld_a0 (np := 11) dJ7_fill_53178_10 rfl ?_
        refine ld_i2 (np := 12) dJ7_fill_53178_11 rfl ?_
        refine ld_i1 (np := 13) dJ7_fill_53178_12 rfl ?_
        refine wl_iastore (np := 14) dJ7_fill_53178_13 rfl (inA_n hs (by omega) hn) ?_
        refine inc_2 (np := 17) (v := _ + 1) dJ7_fill_53178_14 rfl rfl (by decide) rfl ?_
        refine wl_goto (tg := 5) dJ7_fill_53178_17 rfl ?_
        rw [nI_clamp (by omega), ← nI_succ]
        have e : uI (uA me a (fillF (gI me a) i x)) a i x = uA me a (fillF (gI me a) (i + 1) x) := by
          apply mem_ext
          · intro a' b'
            simp only [gI_uI, gI_uA, fillF]
            grind
          · rfl
        rw [e]
        exact ih (i + 1) (by omega) (by omega)
  refine CV.mk (L := [.ref a, .int x, .float 0, .float 0]) (by decide) (Nat.le_of_ble_eq_true rfl) rfl ?_
  refine wl_iconst (np := 1) (v := 0) dJ7_fill_53178_0 rfl (rfl) ?_
  refine st_i2 (np := 2) dJ7_fill_53178_1 rfl (by decide) rfl ?_
  refine ld_a0 (np := 3) dJ7_fill_53178_2 rfl ?_
  refine wl_alen (np := 4) dJ7_fill_53178_3 rfl (by assumption) (by decide) rfl ?_
  refine st_i3 (np := 5) dJ7_fill_53178_4 rfl (by decide) rfl ?_
  have e0 : uA me a (fillF (gI me a) 0 x) = me := by
    apply mem_ext
    · intro a' b'
      simp only [gI_uA, fillF]
      grind
    · rfl
  have h := key (n + 1) 0 (by omega) (by omega)
  rw [e0] at h
  exact h
end STATICS
