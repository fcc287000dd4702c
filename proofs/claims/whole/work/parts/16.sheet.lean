/-! ===== sheets ===== -/
/-- a sheet: nothing, or lane, length, items -/
abbrev Sht : Type := Option (Int32 × Nat × (Nat → Int32))
def isS (sh : List Shp) (me : Mem) (s : Nat) : Prop := sh[s]? = some (.inl 3) ∧ sh[s + 1]? = some (.inr (0, 24)) ∧ gR me s 0 = some (s + 1)
theorem isS.of {sh : List Shp} {me m : Mem} {s : Nat} (h : isS sh me s) (h2 : m.2 = me.2) : isS sh m s := by
  unfold isS gR at *
  rw [h2]
  exact h
def RepS (me : Mem) (s : Nat) (S : Sht) : Prop := match S with
  | none => gI me s 1 = 0
  | some (lane, n, f) => gI me s 1 = 1 ∧ gI me s 2 = lane ∧ gI me s 3 = nI n ∧ n ≤ 24 ∧ ∀ i, i < n → gI me (s + 1) i = f i
/-- from item i on n items are there -/
def inS (L : Nat) (i n : Int32) : Prop := ∃ a b, i = nI a ∧ n = nI b ∧ a + b ≤ L
def narS (lane v : Int32) : Int32 := if lane = 0 then v.toInt8.toInt32 else if lane = 1 then v.toInt16.toInt32 else v
def RefR (S : Sht) (lane i n x : Int32) : Prop := match S with
  | none => x = -11
  | some (l, L, _) => (¬ l = lane ∧ x = -12) ∨ (l = lane ∧ inS L i n ∧ x = 0) ∨ (l = lane ∧ ¬ inS L i n ∧ x = -13)
theorem inS_iff {L : Nat} (hL : L ≤ 24) (i n : Int32) : (0 ≤ n ∧ 0 ≤ i ∧ i ≤ nI L ∧ n ≤ nI L - i) ↔ inS L i n := by
  constructor
  · rintro ⟨h1, h2, h3, h4⟩
    obtain ⟨a, ha, rfl⟩ := nI_of (Int32.not_lt.mpr h2)
    obtain ⟨b, hb, rfl⟩ := nI_of (Int32.not_lt.mpr h1)
    rw [nI_leI ha (by omega)] at h3
    rw [pk_sub h3, nI_leI hb (by omega)] at h4
    exact ⟨a, b, rfl, rfl, by omega⟩
  · rintro ⟨a, b, rfl, rfl, h⟩
    exact ⟨nI_pos' (by omega), nI_pos' (by omega), nI_le (by omega) (by omega), by rw [pk_sub (by omega)]; exact nI_le (by omega) (by omega)⟩
section SHEET
variable {sh : List Shp} {me : Mem} {d s : Nat}
set_option maxHeartbeats 4000000 in
set_option maxRecDepth 100000 in
theorem c_S_begin (lane n : Int32) (hq : isS sh me s) (hd : 1 ≤ d) : CV d mX3_begin sh [.ref s, .int lane, .int n] me (fun m => m = uA (uI (uI (uI me s 1 1) s 2 lane) s 3 n) (s + 1) (fillF (gI me (s + 1)) 24 0)) := by
  obtain ⟨s0, s1, r0⟩ := hq
  refine CV.mk (L := [.ref s, .int lane, .int n]) (by decide) (Nat.le_of_ble_eq_true rfl) rfl ?_
  refine ld_a0 (np := 1) dX3_begin_0 rfl ?_
  refine wl_iconst (np := 2) (v := 1) dX3_begin_1 rfl (rfl) ?_
  refine wl_putz (np := 5) dX3_begin_2 rfl fl_X3_15 nf_3_1 rfl (by decide) (by assumption) ?_
  refine ld_a0 (np := 6) dX3_begin_5 rfl ?_
  refine ld_i1 (np := 7) dX3_begin_6 rfl ?_
  refine wl_puti (np := 10) dX3_begin_7 rfl fl_X3_19 nf_3_2 rfl (by assumption) ?_
  refine ld_a0 (np := 11) dX3_begin_10 rfl ?_
  refine ld_i2 (np := 12) dX3_begin_11 rfl ?_
  refine wl_puti (np := 15) dX3_begin_12 rfl fl_X3_23 nf_3_3 rfl (by assumption) ?_
  refine ld_a0 (np := 16) dX3_begin_15 rfl ?_
  refine wl_getr (np := 19) dX3_begin_16 rfl fl_X3_9 rfl (by assumption) (by assumption) ?_
  refine wl_iconst (np := 20) (v := 0) dX3_begin_19 rfl (rfl) ?_
  refine cvS_2 (np := 23) dX3_begin_20 rfl lk_X3_26 (Nat.le_of_ble_eq_true rfl) (by omega) (Nat.le_refl _) (Nat.le_refl _) (c_fill 0 s1 (by decide)) (fun m_20 h_20 => ?_)
  have q_20 := h_20.symm
  subst q_20
  refine wv_ret dX3_begin_23 rfl (Nat.le_refl _) (Nat.le_refl _) ?_
  congr 1
  congr 1
  funext b
  rw [gI_uI, if_neg (by omega), gI_uI, if_neg (by omega), gI_uI, if_neg (by omega)]
theorem rep_S_begin (lane : Int32) {n : Nat} (hn : n ≤ 24) : RepS (uA (uI (uI (uI me s 1 1) s 2 lane) s 3 (nI n)) (s + 1) (fillF (gI me (s + 1)) 24 0)) s (some (lane, n, fun _ => 0)) := by
  refine ⟨?_, ?_, ?_, hn, fun i hi => ?_⟩
  · rw [gI_uA, if_neg (by omega), gI_uI, if_neg (by omega), gI_uI, if_neg (by omega), gI_uI]; simp
  · rw [gI_uA, if_neg (by omega), gI_uI, if_neg (by omega), gI_uI]; simp
  · rw [gI_uA, if_neg (by omega), gI_uI]; simp
  · rw [gI_uA, if_pos rfl]; unfold fillF; rw [if_pos (by omega)]
theorem onl_S_begin (lane n : Int32) : Onl me (uA (uI (uI (uI me s 1 1) s 2 lane) s 3 n) (s + 1) (fillF (gI me (s + 1)) 24 0)) s (s + 2) := by
  refine ⟨rfl, fun a ha => funext fun b => ?_⟩
  show gI (uA (uI (uI (uI me s 1 1) s 2 lane) s 3 n) (s + 1) (fillF (gI me (s + 1)) 24 0)) a b = gI me a b
  rw [gI_uA, if_neg (by omega), gI_uI, if_neg (by omega), gI_uI, if_neg (by omega), gI_uI, if_neg (by omega)]
set_option maxHeartbeats 4000000 in
set_option maxRecDepth 100000 in
theorem c_narrowed (lane v : Int32) : CI d mX3_narrowed sh [.int lane, .int v] me (fun x m => x = narS lane v ∧ m = me) := by
  refine CI.mk (L := [.int lane, .int v]) (by decide) (Nat.le_of_ble_eq_true rfl) rfl ?_
  refine ld_i0 (np := 1) dX3_narrowed_0 rfl ?_
  refine wl_if_ne (np := 4) (tg := 7) dX3_narrowed_1 rfl rfl (fun c_1 => ?_) (fun c_1 => ?_)
  · refine ld_i0 (np := 8) dX3_narrowed_7 rfl ?_
    refine wl_iconst (np := 9) (v := 1) dX3_narrowed_8 rfl (rfl) ?_
    refine wl_icmp_ne (np := 12) (tg := 17) dX3_narrowed_9 rfl rfl (fun c_9 => ?_) (fun c_9 => ?_)
    · refine ld_i1 (np := 18) dX3_narrowed_17 rfl ?_
      refine wi_ret dX3_narrowed_18 rfl (rfl) (Nat.le_refl _) (Nat.le_refl _) ?_
      exact ⟨by unfold narS; rw [if_neg c_1, if_neg c_9], rfl⟩
    · refine ld_i1 (np := 13) dX3_narrowed_12 rfl ?_
      refine wl_i2s (np := 14) dX3_narrowed_13 rfl ?_
      refine wl_goto (tg := 18) dX3_narrowed_14 rfl ?_
      refine wi_ret dX3_narrowed_18 rfl (rfl) (Nat.le_refl _) (Nat.le_refl _) ?_
      exact ⟨by unfold narS; rw [if_neg c_1, if_pos c_9], rfl⟩
  · refine ld_i1 (np := 5) dX3_narrowed_4 rfl ?_
    refine wl_i2b (np := 6) dX3_narrowed_5 rfl ?_
    refine wi_ret dX3_narrowed_6 rfl (rfl) (Nat.le_refl _) (Nat.le_refl _) ?_
    exact ⟨by unfold narS; rw [if_pos c_1], rfl⟩
set_option maxHeartbeats 4000000 in
set_option maxRecDepth 100000 in
theorem c_hasItems {L : Nat} (i n : Int32) (hq : isS sh me s) (hl : gI me s 3 = nI L) (hL : L ≤ 24) : CI d mX3_hasItems sh [.ref s, .int i, .int n] me (fun x m => (x = 1 ∧ inS L i n ∨ x = 0 ∧ ¬ inS L i n) ∧ m = me) := by
  obtain ⟨s0, s1, r0⟩ := hq
  have no : ¬ (0 ≤ n ∧ 0 ≤ i ∧ i ≤ gI me s 3 ∧ n ≤ gI me s 3 - i) → ¬ inS L i n := fun q1 q2 => q1 (by rw [hl]; exact (inS_iff hL i n).mpr q2)
  refine CI.mk (L := [.ref s, .int i, .int n]) (by decide) (Nat.le_of_ble_eq_true rfl) rfl ?_
  refine ld_i2 (np := 1) dX3_hasItems_0 rfl ?_
  refine wl_if_lt (np := 4) (tg := 30) dX3_hasItems_1 rfl rfl (fun c_1 => ?_) (fun c_1 => ?_)
  · refine wl_iconst (np := 31) (v := 0) dX3_hasItems_30 rfl (rfl) ?_
    refine wi_ret dX3_hasItems_31 rfl (by decide) (Nat.le_refl _) (Nat.le_refl _) ?_
    exact ⟨Or.inr ⟨rfl, no (fun q => Int32.not_lt.mpr q.1 c_1)⟩, rfl⟩
  · refine ld_i1 (np := 5) dX3_hasItems_4 rfl ?_
    refine wl_if_lt (np := 8) (tg := 30) dX3_hasItems_5 rfl rfl (fun c_5 => ?_) (fun c_5 => ?_)
    · refine wl_iconst (np := 31) (v := 0) dX3_hasItems_30 rfl (rfl) ?_
      refine wi_ret dX3_hasItems_31 rfl (by decide) (Nat.le_refl _) (Nat.le_refl _) ?_
      exact ⟨Or.inr ⟨rfl, no (fun q => Int32.not_lt.mpr q.2.1 c_5)⟩, rfl⟩
    · refine ld_i1 (np := 9) dX3_hasItems_8 rfl ?_
      refine ld_a0 (np := 10) dX3_hasItems_9 rfl ?_
      refine wl_geti (np := 13) dX3_hasItems_10 rfl fl_X3_23 (by decide) (by assumption) ?_
      refine wl_icmp_gt (np := 16) (tg := 30) dX3_hasItems_13 rfl rfl (fun c_13 => ?_) (fun c_13 => ?_)
      · refine wl_iconst (np := 31) (v := 0) dX3_hasItems_30 rfl (rfl) ?_
        refine wi_ret dX3_hasItems_31 rfl (by decide) (Nat.le_refl _) (Nat.le_refl _) ?_
        exact ⟨Or.inr ⟨rfl, no (fun q => Int32.not_lt.mpr q.2.2.1 c_13)⟩, rfl⟩
      · refine ld_i2 (np := 17) dX3_hasItems_16 rfl ?_
        refine ld_a0 (np := 18) dX3_hasItems_17 rfl ?_
        refine wl_geti (np := 21) dX3_hasItems_18 rfl fl_X3_23 (by decide) (by assumption) ?_
        refine ld_i1 (np := 22) dX3_hasItems_21 rfl ?_
        refine wl_isub (np := 23) dX3_hasItems_22 rfl ?_
        refine wl_icmp_gt (np := 26) (tg := 30) dX3_hasItems_23 rfl rfl (fun c_23 => ?_) (fun c_23 => ?_)
        · refine wl_iconst (np := 31) (v := 0) dX3_hasItems_30 rfl (rfl) ?_
          refine wi_ret dX3_hasItems_31 rfl (by decide) (Nat.le_refl _) (Nat.le_refl _) ?_
          exact ⟨Or.inr ⟨rfl, no (fun q => Int32.not_lt.mpr q.2.2.2 c_23)⟩, rfl⟩
        · refine wl_iconst (np := 27) (v := 1) dX3_hasItems_26 rfl (rfl) ?_
          refine wl_goto (tg := 31) dX3_hasItems_27 rfl ?_
          refine wi_ret dX3_hasItems_31 rfl (by decide) (Nat.le_refl _) (Nat.le_refl _) ?_
          refine ⟨Or.inl ⟨rfl, (inS_iff hL i n).mp ?_⟩, rfl⟩
          rw [← hl]
          exact ⟨Int32.not_lt.mp c_1, Int32.not_lt.mp c_5, Int32.not_lt.mp c_13, Int32.not_lt.mp c_23⟩
set_option maxHeartbeats 4000000 in
set_option maxRecDepth 100000 in
theorem c_refusal {S : Sht} (lane i n : Int32) (hq : isS sh me s) (hr : RepS me s S) (hd : 1 ≤ d) : CI d mX3_refusal sh [.ref s, .int lane, .int i, .int n] me (fun x m => RefR S lane i n x ∧ m = me) := by
  have hqs := hq
  obtain ⟨s0, s1, r0⟩ := hq
  refine CI.mk (L := [.ref s, .int lane, .int i, .int n]) (by decide) (Nat.le_of_ble_eq_true rfl) rfl ?_
  match S, hr with
  | none, hr =>
    have h0 : gI me s 1 = 0 := hr
    refine ld_a0 (np := 1) dX3_refusal_0 rfl ?_
    refine wl_geti (np := 4) dX3_refusal_1 rfl fl_X3_15 (by decide) (by assumption) ?_
    refine wl_if_ne (np := 7) (tg := 10) dX3_refusal_4 rfl rfl (fun c_4 => ?_) (fun c_4 => ?_)
    · exact absurd h0 c_4
    · refine wl_bipush (np := 9) (v := -11) dX3_refusal_7 rfl (by decide) ?_
      refine wi_ret dX3_refusal_9 rfl (rfl) (Nat.le_refl _) (Nat.le_refl _) ?_
      exact ⟨rfl, rfl⟩
  | some (l, L, f), hr =>
    obtain ⟨h1, h2, h3, h4, h5⟩ := hr
    refine ld_a0 (np := 1) dX3_refusal_0 rfl ?_
    refine wl_geti (np := 4) dX3_refusal_1 rfl fl_X3_15 (by decide) (by assumption) ?_
    refine wl_if_ne (np := 7) (tg := 10) dX3_refusal_4 rfl rfl (fun c_4 => ?_) (fun c_4 => ?_)
    · refine ld_a0 (np := 11) dX3_refusal_10 rfl ?_
      refine wl_geti (np := 14) dX3_refusal_11 rfl fl_X3_19 (by decide) (by assumption) ?_
      refine ld_i1 (np := 15) dX3_refusal_14 rfl ?_
      refine wl_icmp_eq (np := 18) (tg := 21) dX3_refusal_15 rfl rfl (fun c_15 => ?_) (fun c_15 => ?_)
      · refine ld_a0 (np := 22) dX3_refusal_21 rfl ?_
        refine ld_i2 (np := 23) dX3_refusal_22 rfl ?_
        refine ld_i3 (np := 24) dX3_refusal_23 rfl ?_
        refine ciV_2 (np := 27) dX3_refusal_24 rfl lk_X3_32 (by assumption) (Nat.le_of_ble_eq_true rfl) (by omega) (Nat.le_refl _) (Nat.le_refl _) (c_hasItems i n hqs h3 h4) (fun x_24 m_24 h_24 => ?_)
        obtain ⟨h24, q24⟩ := h_24
        have q24 := q24.symm
        subst q24
        rw [h2] at c_15
        refine wl_if_eq (np := 30) (tg := 34) dX3_refusal_27 rfl rfl (fun c_27 => ?_) (fun c_27 => ?_)
        · refine wl_bipush (np := 36) (v := -13) dX3_refusal_34 rfl (by decide) ?_
          refine wi_ret dX3_refusal_36 rfl (rfl) (Nat.le_refl _) (Nat.le_refl _) ?_
          refine ⟨Or.inr (Or.inr ⟨c_15, ?_, rfl⟩), rfl⟩
          rcases h24 with ⟨h, -⟩ | ⟨-, h⟩
          · rw [c_27] at h; exact absurd h (by decide)
          · exact h
        · refine wl_iconst (np := 31) (v := 0) dX3_refusal_30 rfl (rfl) ?_
          refine wl_goto (tg := 36) dX3_refusal_31 rfl ?_
          refine wi_ret dX3_refusal_36 rfl (rfl) (Nat.le_refl _) (Nat.le_refl _) ?_
          refine ⟨Or.inr (Or.inl ⟨c_15, ?_, rfl⟩), rfl⟩
          rcases h24 with ⟨-, h⟩ | ⟨h, -⟩
          · exact h
          · exact absurd h c_27
      · rw [h2] at c_15
        refine wl_bipush (np := 20) (v := -12) dX3_refusal_18 rfl (by decide) ?_
        refine wi_ret dX3_refusal_20 rfl (rfl) (Nat.le_refl _) (Nat.le_refl _) ?_
        exact ⟨Or.inl ⟨c_15, rfl⟩, rfl⟩
    · rw [h1] at c_4
      exact absurd c_4 (by decide)
end SHEET
