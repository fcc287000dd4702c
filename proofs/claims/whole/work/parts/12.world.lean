/-! ===== the world ===== -/
def isW (sh : List Shp) (me : Mem) (w : Nat) : Prop := sh[w]? = some (.inl 5) ∧ sh[w + 1]? = some (.inr (1, 5)) ∧ sh[w + 2]? = some (.inr (0, 12)) ∧ sh[w + 3]? = some (.inr (0, 8)) ∧ sh[w + 4]? = some (.inr (0, 8)) ∧
  gR me w 0 = some (w + 1) ∧ gR me w 1 = some (w + 2) ∧ gR me w 2 = some (w + 3) ∧ gR me w 3 = some (w + 4) ∧ ∀ p, p < 5 → gR me (w + 1) p = some (w + 5 + 6 * p) ∧ isP sh me (w + 5 + 6 * p)
theorem isW.of {sh : List Shp} {me m : Mem} {w : Nat} (h : isW sh me w) (h2 : m.2 = me.2) : isW sh m w := by
  unfold isW at *
  obtain ⟨a1, a2, a3, a4, a5, a6, a7, a8, a9, a10⟩ := h
  refine ⟨a1, a2, a3, a4, a5, ?_, ?_, ?_, ?_, fun p hp => ⟨?_, ((a10 p hp).2).of h2⟩⟩
  all_goals unfold gR at *
  all_goals rw [h2]
  · exact a6
  · exact a7
  · exact a8
  · exact a9
  · exact (a10 p hp).1
def RepPs (me : Mem) (w : Nat) (ps : List Prs) : Prop := ps.length ≤ 5 ∧ ∀ p P, ps[p]? = some P → RepP me (w + 5 + 6 * p) P
def RepW (me : Mem) (w : Nat) (W : Wld) : Prop := RepPs me w W.1 ∧ gI me w 4 = nI W.1.length ∧ (∀ m, m < 12 → gI me (w + 2) m = W.2.1 m) ∧ gI me w 7 = W.2.2.1.1 ∧ gI me w 8 = W.2.2.1.2.1 ∧ gI me w 9 = W.2.2.1.2.2 ∧ gI me w 6 = nI W.2.2.2.1 ∧ W.2.2.2.1 ≤ 359 ∧ gI me w 5 = nI W.2.2.2.2.length ∧ W.2.2.2.2.length ≤ 8 ∧ (∀ k a, W.2.2.2.2[k]? = some a → gI me (w + 3) k = a.1 ∧ gI me (w + 4) k = a.2)
theorem RepW.fr {me m : Mem} {w : Nat} {W : Wld} (h : RepW me w W) (hf : ∀ a, w ≤ a → a < w + 35 → m.1 a = me.1 a) : RepW m w W := by
  have e : ∀ k b, k < 35 → gI m (w + k) b = gI me (w + k) b := fun k b hk => congrFun (hf (w + k) (by omega) (by omega)) b
  obtain ⟨h1, h2, h3, h4, h5, h6, h7, h8, h9, h10, h11⟩ := h
  refine ⟨⟨h1.1, fun p P hp => (h1.2 p P hp).fr (fun a h0 h01 => hf a (by omega) ?_)⟩, (e 0 _ (by omega)).trans h2, fun j hj => (e 2 _ (by omega)).trans (h3 j hj), (e 0 _ (by omega)).trans h4, (e 0 _ (by omega)).trans h5, (e 0 _ (by omega)).trans h6, (e 0 _ (by omega)).trans h7, h8, (e 0 _ (by omega)).trans h9, h10, fun k a hk => ⟨(e 3 _ (by omega)).trans (h11 k a hk).1, (e 4 _ (by omega)).trans (h11 k a hk).2⟩⟩
  have := (List.getElem?_eq_some_iff.mp hp).1
  have := h1.1
  omega
def lenP (P : Prs) : Prop := ∀ co ∈ P.2.1, ∃ l, l < 5 ∧ co.1 = nI l
def lenW (W : Wld) : Prop := ∀ P ∈ W.1, lenP P
/-- the number p is that of one of the people -/
def isPn (ps : List Prs) (p : Int32) : Prop := ∃ k, k < ps.length ∧ p = nI k
/-- c is the number of a coat of his -/
def isCt (ps : List Prs) (p c : Int32) : Prop := ∃ k P j, ps[k]? = some P ∧ p = nI k ∧ j < P.2.1.length ∧ c = nI j
theorem in_iff {n : Nat} (hn : n < 2 ^ 31) (p : Int32) : (0 ≤ p ∧ p ≤ nI n - 1) ↔ ∃ k, k < n ∧ p = nI k := by
  constructor
  · rintro ⟨h1, h2⟩
    obtain ⟨j, hj, rfl⟩ := nI_of (Int32.not_lt.mpr h1)
    refine ⟨j, ?_, rfl⟩
    cases n with
    | zero =>
      exfalso
      have : nI j ≤ (-1 : Int32) := h2
      exact absurd h1 (by
        intro h
        have h3 := Int32.le_trans h h2
        exact absurd h3 (by decide))
    | succ n =>
      rw [nI_pred, nI_leI hj (by omega)] at h2
      omega
  · rintro ⟨k, hk, rfl⟩
    obtain ⟨n, rfl⟩ : ∃ m, n = m + 1 := ⟨n - 1, by omega⟩
    rw [nI_pred]
    exact ⟨nI_pos' (by omega), nI_le (by omega) (by omega)⟩
theorem if_or {P : Prop} [Decidable P] {x : Int32} (h : x = if P then 1 else 0) : x = 1 ∧ P ∨ x = 0 ∧ ¬ P := by
  by_cases hP : P
  · rw [if_pos hP] at h; exact Or.inl ⟨h, hP⟩
  · rw [if_neg hP] at h; exact Or.inr ⟨h, hP⟩
theorem or_nar {P Q : Prop} {x : Int32} (h : x = 1 ∧ P ∨ x = 0 ∧ Q) : narrow .boolean (.int x) = .int x := by
  rcases h with ⟨rfl, -⟩ | ⟨rfl, -⟩ <;> decide
/-! nights -/
def nightWd (W : Wld) : Wld := (W.1.map (fun P => nightP P (W.2.1 ((W.2.2.2.1 + 1) / 30)) (nI (W.2.2.2.1 + 1))), W.2.1, W.2.2.1, W.2.2.2.1 + 1, W.2.2.2.2)
def nightsW : Nat → Wld → Wld
  | 0, W => W
  | k + 1, W => nightsW k (nightWd W)
theorem lenP_rest {P : Prs} (h : lenP P) : lenP (restP P) := by
  intro co hco
  simp only [restP] at hco
  obtain ⟨c0, h0, rfl⟩ := List.mem_map.mp hco
  exact h c0 h0
theorem lenP_night {P : Prs} (h : lenP P) (a b : Int32) : lenP (nightP P a b) := by
  unfold nightP
  split
  · exact lenP_rest h
  · exact lenP_rest h
theorem lenW_night {W : Wld} (h : lenW W) : lenW (nightWd W) := by
  intro P hP
  simp only [nightWd] at hP
  obtain ⟨P0, h0, rfl⟩ := List.mem_map.mp hP
  exact lenP_night (h P0 h0) _ _
theorem hot_iff {me : Mem} {q : Nat} {P : Prs} (h : RepP me q P) (heat : Int32) : hotP me q P.2.1.length heat ↔ maxI (P.1.2.2.1 - heat) 0 < thickOf P := by
  unfold hotP thickOf
  rw [h.2.2.1, sumF_eq (gI me (q + 4)) P.2.1 (fun co => co.2.2.2) (fun c co hc => (h.2.2.2.2.2.2.1 c co hc).2.2.2)]
section WORLD
variable {sh : List Shp} {me : Mem} {d w : Nat} {W : Wld}
set_option maxHeartbeats 4000000 in
set_option maxRecDepth 100000 in
theorem c_hasPerson (p : Int32) (hw : isW sh me w) (hr : RepW me w W) (hd : 1 ≤ d) : CI d mX5_hasPerson sh [.ref w, .int p] me (fun x m => (x = 1 ∧ isPn W.1 p ∨ x = 0 ∧ ¬ isPn W.1 p) ∧ m = me) := by
  obtain ⟨s0, s1, s2, s3, s4, r0, r1, r2, r3, hP⟩ := hw
  refine CI.mk (L := [.ref w, .int p]) (by decide) (Nat.le_of_ble_eq_true rfl) rfl ?_
  refine ld_i1 (np := 1) dX5_hasPerson_0 rfl ?_
  refine wl_iconst (np := 2) (v := 0) dX5_hasPerson_1 rfl (rfl) ?_
  refine ld_a0 (np := 3) dX5_hasPerson_2 rfl ?_
  refine wl_geti (np := 6) dX5_hasPerson_3 rfl fl_X5_28 (by decide) (by assumption) ?_
  refine wl_iconst (np := 7) (v := 1) dX5_hasPerson_6 rfl (rfl) ?_
  refine wl_isub (np := 8) dX5_hasPerson_7 rfl ?_
  refine ciSN_3 (np := 11) dX5_hasPerson_8 rfl lk_X5_57 (Nat.le_of_ble_eq_true rfl) (by omega) (Nat.le_refl _) (Nat.le_refl _) (c_isWithin _ _ _) (fun x_8 m_8 h_8 => ?_)
  obtain ⟨rfl, q_8⟩ := h_8
  have q_8 := q_8.symm
  subst q_8
  refine wi_ret dX5_hasPerson_11 rfl (wi_nar) (Nat.le_refl _) (Nat.le_refl _) ?_
  refine ⟨?_, rfl⟩
  have h := if_or (x := if 0 ≤ p ∧ p ≤ gI me w 4 - 1 then 1 else 0) rfl
  have hl := hr.1.1
  have e : (0 ≤ p ∧ p ≤ gI me w 4 - 1) ↔ isPn W.1 p := by rw [hr.2.1]; exact in_iff (by omega) p
  rcases h with ⟨h1, h2⟩ | ⟨h1, h2⟩
  · exact Or.inl ⟨h1, e.mp h2⟩
  · exact Or.inr ⟨h1, fun q => h2 (e.mpr q)⟩
set_option maxHeartbeats 4000000 in
set_option maxRecDepth 100000 in
theorem c_hasCoat (p c : Int32) (hw : isW sh me w) (hr : RepW me w W) (hd : 2 ≤ d) : CI d mX5_hasCoat sh [.ref w, .int p, .int c] me (fun x m => (x = 1 ∧ isCt W.1 p c ∨ x = 0 ∧ ¬ isCt W.1 p c) ∧ m = me) := by
  have hws := hw
  obtain ⟨s0, s1, s2, s3, s4, r0, r1, r2, r3, hP⟩ := hw
  refine CI.mk (L := [.ref w, .int p, .int c]) (by decide) (Nat.le_of_ble_eq_true rfl) rfl ?_
  refine ld_a0 (np := 1) dX5_hasCoat_0 rfl ?_
  refine ld_i1 (np := 2) dX5_hasCoat_1 rfl ?_
  refine ciV_1 (np := 5) dX5_hasCoat_2 rfl lk_X5_61 (by assumption) (Nat.le_of_ble_eq_true rfl) (by omega) (Nat.le_refl _) (Nat.le_refl _) (c_hasPerson p hws hr (by omega)) (fun x_2 m_2 h_2 => ?_)
  obtain ⟨h2, q2⟩ := h_2
  have q2 := q2.symm
  subst q2
  refine wl_if_eq (np := 8) (tg := 31) dX5_hasCoat_5 rfl rfl (fun c_5 => ?_) (fun c_5 => ?_)
  · refine wl_iconst (np := 32) (v := 0) dX5_hasCoat_31 rfl (rfl) ?_
    refine wi_ret dX5_hasCoat_32 rfl (by decide) (Nat.le_refl _) (Nat.le_refl _) ?_
    refine ⟨Or.inr ⟨rfl, ?_⟩, rfl⟩
    rintro ⟨k, P, j, h3, h4, h5, h6⟩
    rcases h2 with ⟨h7, -⟩ | ⟨h7, h8⟩
    · rw [c_5] at h7; exact absurd h7 (by decide)
    · exact h8 ⟨k, (List.getElem?_eq_some_iff.mp h3).1, h4⟩
  · rcases h2 with ⟨h7, k, hk, rfl⟩ | ⟨h7, h8⟩
    · have hl := hr.1.1
      obtain ⟨g1, g2⟩ := hP k (by omega)
      have sP := g2.1
      obtain ⟨P, hPk⟩ : ∃ P, W.1[k]? = some P := ⟨_, List.getElem?_eq_getElem hk⟩
      have hrP := hr.1.2 k P hPk
      have hlen := hrP.2.2.2.2.2.1
      have e : (0 ≤ c ∧ c ≤ gI me (w + 5 + 6 * k) 5 - 1) ↔ isCt W.1 (nI k) c := by
        rw [hrP.2.2.2.2.1, in_iff (by omega) c]
        constructor
        · rintro ⟨j, hj, rfl⟩
          exact ⟨k, P, j, hPk, rfl, hj, rfl⟩
        · rintro ⟨k', P', j, h3, h4, h5, rfl⟩
          have hk' := (List.getElem?_eq_some_iff.mp h3).1
          rw [nI_eq (by omega) (by omega)] at h4
          subst h4
          rw [hPk] at h3
          cases h3
          exact ⟨j, h5, rfl⟩
      refine ld_i2 (np := 9) dX5_hasCoat_8 rfl ?_
      refine wl_iconst (np := 10) (v := 0) dX5_hasCoat_9 rfl (rfl) ?_
      refine ld_a0 (np := 11) dX5_hasCoat_10 rfl ?_
      refine wl_getr (np := 14) dX5_hasCoat_11 rfl fl_X5_11 rfl (by assumption) (by first | assumption | (rw [nI_clamp (by omega)]; assumption)) ?_
      refine ld_i1 (np := 15) dX5_hasCoat_14 rfl ?_
      refine wl_aaload (np := 16) dX5_hasCoat_15 rfl (by assumption) (by decide) (vp_in_nI (by omega) (by decide)) (by first | assumption | (rw [nI_clamp (by omega)]; assumption)) ?_
      refine wl_geti (np := 19) dX5_hasCoat_16 rfl fl_X5_65 (by decide) (by assumption) ?_
      refine wl_iconst (np := 20) (v := 1) dX5_hasCoat_19 rfl (rfl) ?_
      refine wl_isub (np := 21) dX5_hasCoat_20 rfl ?_
      refine ciSN_3 (np := 24) dX5_hasCoat_21 rfl lk_X5_57 (Nat.le_of_ble_eq_true rfl) (by omega) (Nat.le_refl _) (Nat.le_refl _) (c_isWithin _ _ _) (fun x_21 m_21 h_21 => ?_)
      obtain ⟨rfl, q_21⟩ := h_21
      have q_21 := q_21.symm
      subst q_21
      refine wl_if_eq (np := 27) (tg := 31) dX5_hasCoat_24 rfl rfl (fun c_24 => ?_) (fun c_24 => ?_)
      · refine wl_iconst (np := 32) (v := 0) dX5_hasCoat_31 rfl (rfl) ?_
        refine wi_ret dX5_hasCoat_32 rfl (by decide) (Nat.le_refl _) (Nat.le_refl _) ?_
        refine ⟨Or.inr ⟨rfl, fun q => ?_⟩, rfl⟩
        rw [if_pos (e.mpr q)] at c_24
        exact absurd c_24 (by decide)
      · refine wl_iconst (np := 28) (v := 1) dX5_hasCoat_27 rfl (rfl) ?_
        refine wl_goto (tg := 32) dX5_hasCoat_28 rfl ?_
        refine wi_ret dX5_hasCoat_32 rfl (by decide) (Nat.le_refl _) (Nat.le_refl _) ?_
        refine ⟨Or.inl ⟨rfl, ?_⟩, rfl⟩
        refine e.mp (Classical.byContradiction fun q => ?_)
        rw [if_neg q] at c_24
        exact c_24 rfl
    · exact absurd h7 c_5
set_option maxHeartbeats 4000000 in
set_option maxRecDepth 100000 in
theorem c_coatsOfAll (hw : isW sh me w) (hr : RepW me w W) : CI d mX5_coatsOfAll sh [.ref w] me (fun x m => x = sumL (W.1.map (fun P => nI P.2.1.length)) ∧ m = me) := by
  obtain ⟨s0, s1, s2, s3, s4, r0, r1, r2, r3, hP⟩ := hw
  have hl := hr.1.1
  have hn := hr.2.1
  have hsum : sumF (fun p => gI me (w + 5 + 6 * p) 5) W.1.length = sumL (W.1.map (fun P => nI P.2.1.length)) := sumF_eq _ _ _ (fun p P hp => (hr.1.2 p P hp).2.2.2.2.1)
  have key : ∀ fuel i, W.1.length - i < fuel → i ≤ W.1.length → Wa mX5_coatsOfAll (0, fun _ => 0) d 0 0 sh.length (PI sh (fun x m => x = sumL (W.1.map (fun P => nI P.2.1.length)) ∧ m = me)) 4 [.ref w, .int (sumF (fun p => gI me (w + 5 + 6 * p) 5) i), .int (nI i)] [] sh me 0 0 := by
    intro fuel
    induction fuel with
    | zero => intro i h; omega
    | succ fuel ih =>
      intro i hi hin
      refine ld_i2 (np := 5) dX5_coatsOfAll_4 rfl ?_
      refine ld_a0 (np := 6) dX5_coatsOfAll_5 rfl ?_
      refine wl_geti (np := 9) dX5_coatsOfAll_6 rfl fl_X5_28 (by decide) (by assumption) ?_
      refine wl_icmp_ge (np := 12) (tg := 30) dX5_coatsOfAll_9 rfl rfl (fun c_9 => ?_) (fun c_9 => ?_)
      · refine ld_i1 (np := 31) dX5_coatsOfAll_30 rfl ?_
        refine wi_ret dX5_coatsOfAll_31 rfl (rfl) (Nat.le_refl _) (Nat.le_refl _) ?_
        rw [hn, nI_le_iff (by omega) (by omega)] at c_9
        rw [show i = W.1.length by omega]
        exact ⟨hsum, rfl⟩
      · rw [hn, nI_le_iff (by omega) (by omega)] at c_9
        obtain ⟨g1, g2⟩ := hP i (by omega)
        have sP := g2.1
        refine ld_i1 (np := 13) dX5_coatsOfAll_12 rfl ?_
        refine ld_a0 (np := 14) dX5_coatsOfAll_13 rfl ?_
        refine wl_getr (np := 17) dX5_coatsOfAll_14 rfl fl_X5_11 rfl (by assumption) (by first | assumption | (rw [nI_clamp (by omega)]; assumption)) ?_
        refine ld_i2 (np := 18) dX5_coatsOfAll_17 rfl ?_
        refine wl_aaload (np := 19) dX5_coatsOfAll_18 rfl (by assumption) (by decide) (vp_in_nI (by omega) (by decide)) (by first | assumption | (rw [nI_clamp (by omega)]; assumption)) ?_
        refine wl_geti (np := 22) dX5_coatsOfAll_19 rfl fl_X5_65 (by decide) (by assumption) ?_
        refine wl_iadd (np := 23) dX5_coatsOfAll_22 rfl ?_
        refine st_i1 (np := 24) dX5_coatsOfAll_23 rfl (by decide) rfl ?_
        refine inc_2 (np := 27) (v := _ + 1) dX5_coatsOfAll_24 rfl rfl (by decide) rfl ?_
        refine wl_goto (tg := 4) dX5_coatsOfAll_27 rfl ?_
        rw [← nI_succ]
        exact ih (i + 1) (by omega) (by omega)
  refine CI.mk (L := [.ref w, .float 0, .float 0]) (by decide) (Nat.le_of_ble_eq_true rfl) rfl ?_
  refine wl_iconst (np := 1) (v := 0) dX5_coatsOfAll_0 rfl (rfl) ?_
  refine st_i1 (np := 2) dX5_coatsOfAll_1 rfl (by decide) rfl ?_
  refine wl_iconst (np := 3) (v := 0) dX5_coatsOfAll_2 rfl (rfl) ?_
  refine st_i2 (np := 4) dX5_coatsOfAll_3 rfl (by decide) rfl ?_
  exact key (W.1.length + 1) 0 (by omega) (by omega)
def fellF (f : Nat → Int32) : Nat → Int32
  | 0 => 0
  | p + 1 => if f p = -4 then fellF f p else fellF f p ||| (1 <<< (nI p &&& 31))
set_option maxHeartbeats 4000000 in
set_option maxRecDepth 100000 in
theorem c_fallenOnes (hw : isW sh me w) (hr : RepW me w W) : CI d mX5_fallenOnes sh [.ref w] me (fun x m => x = fellF (fun p => gI me (w + 5 + 6 * p) 9) W.1.length ∧ m = me) := by
  obtain ⟨s0, s1, s2, s3, s4, r0, r1, r2, r3, hP⟩ := hw
  have hl := hr.1.1
  have hn := hr.2.1
  have key : ∀ fuel i, W.1.length - i < fuel → i ≤ W.1.length → Wa mX5_fallenOnes (0, fun _ => 0) d 0 0 sh.length (PI sh (fun x m => x = fellF (fun p => gI me (w + 5 + 6 * p) 9) W.1.length ∧ m = me)) 4 [.ref w, .int (fellF (fun p => gI me (w + 5 + 6 * p) 9) i), .int (nI i)] [] sh me 0 0 := by
    intro fuel
    induction fuel with
    | zero => intro i h; omega
    | succ fuel ih =>
      intro i hi hin
      refine ld_i2 (np := 5) dX5_fallenOnes_4 rfl ?_
      refine ld_a0 (np := 6) dX5_fallenOnes_5 rfl ?_
      refine wl_geti (np := 9) dX5_fallenOnes_6 rfl fl_X5_28 (by decide) (by assumption) ?_
      refine wl_icmp_ge (np := 12) (tg := 38) dX5_fallenOnes_9 rfl rfl (fun c_9 => ?_) (fun c_9 => ?_)
      · refine ld_i1 (np := 39) dX5_fallenOnes_38 rfl ?_
        refine wi_ret dX5_fallenOnes_39 rfl (rfl) (Nat.le_refl _) (Nat.le_refl _) ?_
        rw [hn, nI_le_iff (by omega) (by omega)] at c_9
        rw [show i = W.1.length by omega]
        exact ⟨rfl, rfl⟩
      · rw [hn, nI_le_iff (by omega) (by omega)] at c_9
        obtain ⟨g1, g2⟩ := hP i (by omega)
        have sP := g2.1
        refine ld_a0 (np := 13) dX5_fallenOnes_12 rfl ?_
        refine wl_getr (np := 16) dX5_fallenOnes_13 rfl fl_X5_11 rfl (by assumption) (by first | assumption | (rw [nI_clamp (by omega)]; assumption)) ?_
        refine ld_i2 (np := 17) dX5_fallenOnes_16 rfl ?_
        refine wl_aaload (np := 18) dX5_fallenOnes_17 rfl (by assumption) (by decide) (vp_in_nI (by omega) (by decide)) (by first | assumption | (rw [nI_clamp (by omega)]; assumption)) ?_
        refine wl_geti (np := 21) dX5_fallenOnes_18 rfl fl_X5_68 (by decide) (by assumption) ?_
        refine wl_bipush (np := 23) (v := -4) dX5_fallenOnes_21 rfl (by decide) ?_
        refine wl_icmp_eq (np := 26) (tg := 32) dX5_fallenOnes_23 rfl rfl (fun c_23 => ?_) (fun c_23 => ?_)
        · have e : fellF (fun p => gI me (w + 5 + 6 * p) 9) (i + 1) = fellF (fun p => gI me (w + 5 + 6 * p) 9) i := if_pos c_23
          refine inc_2 (np := 35) (v := _ + 1) dX5_fallenOnes_32 rfl rfl (by decide) rfl ?_
          refine wl_goto (tg := 4) dX5_fallenOnes_35 rfl ?_
          rw [← nI_succ, ← e]
          exact ih (i + 1) (by omega) (by omega)
        · have e : fellF (fun p => gI me (w + 5 + 6 * p) 9) (i + 1) = fellF (fun p => gI me (w + 5 + 6 * p) 9) i ||| (1 <<< (nI i &&& 31)) := if_neg c_23
          refine ld_i1 (np := 27) dX5_fallenOnes_26 rfl ?_
          refine wl_iconst (np := 28) (v := 1) dX5_fallenOnes_27 rfl (rfl) ?_
          refine ld_i2 (np := 29) dX5_fallenOnes_28 rfl ?_
          refine wl_ishl (np := 30) dX5_fallenOnes_29 rfl ?_
          refine wl_ior (np := 31) dX5_fallenOnes_30 rfl ?_
          refine st_i1 (np := 32) dX5_fallenOnes_31 rfl (by decide) rfl ?_
          refine inc_2 (np := 35) (v := _ + 1) dX5_fallenOnes_32 rfl rfl (by decide) rfl ?_
          refine wl_goto (tg := 4) dX5_fallenOnes_35 rfl ?_
          rw [← nI_succ, ← e]
          exact ih (i + 1) (by omega) (by omega)
  refine CI.mk (L := [.ref w, .float 0, .float 0]) (by decide) (Nat.le_of_ble_eq_true rfl) rfl ?_
  refine wl_iconst (np := 1) (v := 0) dX5_fallenOnes_0 rfl (rfl) ?_
  refine st_i1 (np := 2) dX5_fallenOnes_1 rfl (by decide) rfl ?_
  refine wl_iconst (np := 3) (v := 0) dX5_fallenOnes_2 rfl (rfl) ?_
  refine st_i2 (np := 4) dX5_fallenOnes_3 rfl (by decide) rfl ?_
  exact key (W.1.length + 1) 0 (by omega) (by omega)
set_option maxHeartbeats 4000000 in
set_option maxRecDepth 100000 in
theorem c_heatOn {dd : Nat} (hw : isW sh me w) (hdd : dd ≤ 359) (hd : 1 ≤ d) : CI d mX5_heatOn sh [.ref w, .int (nI dd)] me (fun x m => x = gI me (w + 2) (dd / 30) ∧ m = me) := by
  obtain ⟨s0, s1, s2, s3, s4, r0, r1, r2, r3, hP⟩ := hw
  have e : nI dd / 30 = nI (dd / 30) := pk_div (d := 30) (by omega) (by decide) (by decide)
  have e2 : (0 : Int32) ≤ nI (dd / 30) ∧ nI (dd / 30) ≤ 11 := ⟨nI_pos' (by omega), (show nI (dd / 30) ≤ nI 11 from nI_le (by omega) (by decide))⟩
  refine CI.mk (L := [.ref w, .int (nI dd), .float 0]) (by decide) (Nat.le_of_ble_eq_true rfl) rfl ?_
  refine ld_i1 (np := 1) dX5_heatOn_0 rfl ?_
  refine wl_bipush (np := 3) (v := 30) dX5_heatOn_1 rfl (by decide) ?_
  refine wl_idiv (np := 4) dX5_heatOn_3 rfl (by decide) ?_
  refine st_i2 (np := 5) dX5_heatOn_4 rfl (by decide) rfl ?_
  refine ld_i2 (np := 6) dX5_heatOn_5 rfl ?_
  refine wl_iconst (np := 7) (v := 0) dX5_heatOn_6 rfl (rfl) ?_
  refine wl_bipush (np := 9) (v := 11) dX5_heatOn_7 rfl (by decide) ?_
  refine ciSN_3 (np := 12) dX5_heatOn_9 rfl lk_X5_57 (Nat.le_of_ble_eq_true rfl) (by omega) (Nat.le_refl _) (Nat.le_refl _) (c_isWithin _ _ _) (fun x_9 m_9 h_9 => ?_)
  obtain ⟨rfl, q_9⟩ := h_9
  have q_9 := q_9.symm
  subst q_9
  refine wl_if_eq (np := 15) (tg := 24) dX5_heatOn_12 rfl rfl (fun c_12 => ?_) (fun c_12 => ?_)
  · rw [e, if_pos e2] at c_12
    exact absurd c_12 (by decide)
  · rw [e]
    refine ld_a0 (np := 16) dX5_heatOn_15 rfl ?_
    refine wl_getr (np := 19) dX5_heatOn_16 rfl fl_X5_17 rfl (by assumption) (by assumption) ?_
    refine ld_i2 (np := 20) dX5_heatOn_19 rfl ?_
    refine wl_iaload (np := 21) dX5_heatOn_20 rfl (inA_n s2 (by omega) (by decide)) ?_
    refine wl_goto (tg := 25) dX5_heatOn_21 rfl ?_
    refine wi_ret dX5_heatOn_25 rfl (rfl) (Nat.le_refl _) (Nat.le_refl _) ?_
    rw [nI_clamp (by omega)]
    exact ⟨rfl, rfl⟩
end WORLD
