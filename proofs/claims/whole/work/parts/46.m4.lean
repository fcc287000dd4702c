def KeepM (me m : Mem) : Prop := gI m 136 13 = gI me 136 13 ∧ gI m 136 23 = gI me 136 23 ∧ gI m 144 = gI me 144 ∧ gI m 149 = gI me 149 ∧ gI m 150 = gI me 150 ∧ gI m 151 = gI me 151 ∧ gI m 152 = gI me 152
section M4
variable {sh : List Shp} {me : Mem} {d : Nat} {S : St}
theorem GoodM.now {m : Mem} {W : Wld} (hF : FixM sh me) (hR : RepM me S) (hrf : RfM me m) (hm : ∀ a, a < 136 → m.1 a = me.1 a) (hk : KeepM me m) (hN : NowM m W) : GoodM sh me m (W, S.2) := by
  obtain ⟨k1, k2, k3, k4, k5, k6, k7⟩ := hk
  obtain ⟨h1, h2, ⟨h3, h4, h5⟩, h6⟩ := hR
  refine ⟨⟨hN, ?_, ⟨k1.trans h3, h4, fun i hi => by rw [k3]; exact h5 i hi⟩, fun k hk => by rw [k5, k6, k7]; exact h6 k hk⟩, hF.of hrf, hrf, hm⟩
  dsimp only
  cases hI : S.2.1 with
  | none => rw [hI] at h2; exact k2.trans h2
  | some V =>
    rw [hI] at h2
    unfold ImgM at *
    rw [k2, k4]
    exact h2
theorem GoodM.ps {m : Mem} {f : Nat → Int32} {ps : List Prs} (hF : FixM sh me) (hR : RepM me S) (hm : m.1 = (uA me 137 f).1) (hrf : RfM me m) (hl : ps.length = S.1.1.length) (hN : RepN f ps) (hT : RepTs (gI me 139) ps) : GoodM sh me m (setPs S ps) := by
  have e : ∀ a, a ≠ 137 → gI m a = gI me a := fun a ha => by
    show m.1 a = _
    rw [hm]
    exact gI_uAn ha
  have e7 : gI m 137 = f := by
    show m.1 137 = _
    rw [hm]
    exact gI_uAs me 137 f
  refine GoodM.now hF hR hrf (fun a ha => e a (by omega)) ⟨by rw [e 136 (by omega)], by rw [e 136 (by omega)], e _ (by omega), e _ (by omega), e _ (by omega), e _ (by omega), e _ (by omega)⟩ ?_
  obtain ⟨v1, v2, v3, v4, v5, v6, v7, v8, v9, v10, v11, v12⟩ := hR.1
  unfold NowM
  rw [e7, e 136 (by omega), e 139 (by omega), e 140 (by omega), e 141 (by omega), e 142 (by omega), e 143 (by omega)]
  exact ⟨hN, hT, by rw [v3, hl], v4, v5, v6, v7, v8, v9, v10, v11, v12⟩
theorem repN_set {N f : Nat → Int32} {ps : List Prs} {k : Nat} {P : Prs} (h : RepN N ps) (hk : k < ps.length) (hfr : ∀ i, ¬ (40 * k ≤ i ∧ i < 40 * k + 40) → f i = N i) (hq : RepQ f k P) : RepN f (ps.set k P) := by
  refine ⟨by simpa using h.1, fun p P' hp => ?_⟩
  rw [List.getElem?_set] at hp
  by_cases hkp : k = p
  · subst hkp
    rw [if_pos rfl, if_pos hk] at hp
    cases hp
    exact hq
  · rw [if_neg hkp] at hp
    exact (h.2 p P' hp).fr (fun i h1 h2 => hfr i (by omega))
theorem repT_set {T : Nat → Int32} {ps : List Prs} {k : Nat} {P : Prs} (h : RepTs T ps) (hk : k < ps.length) (ht : RepT T k P) : RepTs T (ps.set k P) := by
  intro p P' hp
  rw [List.getElem?_set] at hp
  by_cases hkp : k = p
  · subst hkp
    rw [if_pos rfl, if_pos hk] at hp
    cases hp
    exact ht
  · rw [if_neg hkp] at hp
    exact h p P' hp
theorem GoodM.p {m : Mem} {f : Nat → Int32} {k : Nat} {P : Prs} (hF : FixM sh me) (hR : RepM me S) (hm : m.1 = (uA me 137 f).1) (hrf : RfM me m) (hk : k < S.1.1.length) (hfr : ∀ i, ¬ (40 * k ≤ i ∧ i < 40 * k + 40) → f i = gI me 137 i) (hq : RepQ f k P) (ht : RepT (gI me 139) k P) : GoodM sh me m (setPs S (S.1.1.set k P)) :=
  GoodM.ps hF hR hm hrf (by simp) (repN_set hR.1.1 hk hfr hq) (repT_set hR.1.2.1 hk ht)
theorem rfm_now {m : Mem} {r : Option Nat} (h : m.2 = (uR me 136 3 r).2) (hr : r = some 137 ∨ r = some 138) : RfM me m := by
  have e : ∀ a b, gR m a b = gR (uR me 136 3 r) a b := fun a b => by unfold gR; rw [h]
  refine ⟨fun a b hab => ?_, Or.inr ?_⟩
  · rw [e, gR_uR, if_neg (by omega)]
  · rw [e, gR_uR, if_pos ⟨rfl, rfl⟩]
    exact hr
def offF (N : Nat → Int32) (p j n k : Nat) : Nat → Int32 := fun x => if x = 40 * p + 3 then nI (n - 1) else if 40 * p + 8 + 4 * j ≤ x ∧ x < 40 * p + 8 + k then N (x + 4) else N x
theorem rep_off {N : Nat → Int32} {p j : Nat} {P : Prs} (hq : RepQ N p P) (hj : j < P.2.1.length) : RepQ (offF N p j P.2.1.length (4 * (P.2.1.length - 1))) p (takeP P j) := by
  obtain ⟨h1, h2, h3, h4, h5, h6, h7, h8⟩ := hq
  have hl : (takeP P j).2.1.length = P.2.1.length - 1 := by
    unfold takeP
    dsimp only
    rw [List.length_eraseIdx, if_pos hj]
  have o : ∀ x, x < 40 * p + 8 → x ≠ 40 * p + 3 → offF N p j P.2.1.length (4 * (P.2.1.length - 1)) x = N x := fun x h1 h2 => by
    unfold offF
    rw [if_neg h2, if_neg (by omega)]
  refine ⟨(o _ (by omega) (by omega)).trans h1, (o _ (by omega) (by omega)).trans h2, (o _ (by omega) (by omega)).trans h3, ?_, by omega, (o _ (by omega) (by omega)).trans h6, (o _ (by omega) (by omega)).trans h7, fun c co hc => ?_⟩
  · unfold offF
    rw [if_pos rfl, hl]
  · have hcl := (List.getElem?_eq_some_iff.mp hc).1
    rw [hl] at hcl
    simp only [takeP, List.getElem?_eraseIdx] at hc
    by_cases hcj : c < j
    · rw [if_pos hcj] at hc
      obtain ⟨e1, e2, e3, e4⟩ := h8 c co hc
      have o2 : ∀ r, r < 4 → offF N p j P.2.1.length (4 * (P.2.1.length - 1)) (40 * p + 8 + 4 * c + r) = N (40 * p + 8 + 4 * c + r) := fun r hr => by
        unfold offF
        rw [if_neg (by omega), if_neg (by omega)]
      exact ⟨(o2 0 (by omega)).trans e1, (o2 1 (by omega)).trans e2, (o2 2 (by omega)).trans e3, (o2 3 (by omega)).trans e4⟩
    · rw [if_neg hcj] at hc
      obtain ⟨e1, e2, e3, e4⟩ := h8 (c + 1) co hc
      have o2 : ∀ r, r < 4 → offF N p j P.2.1.length (4 * (P.2.1.length - 1)) (40 * p + 8 + 4 * c + r) = N (40 * p + 8 + 4 * (c + 1) + r) := fun r hr => by
        unfold offF
        rw [if_neg (by omega), if_pos (by omega)]
        congr 1
        omega
      exact ⟨(o2 0 (by omega)).trans e1, (o2 1 (by omega)).trans e2, (o2 2 (by omega)).trans e3, (o2 3 (by omega)).trans e4⟩
set_option maxHeartbeats 4000000 in
set_option maxRecDepth 100000 in
theorem c_M_off {A p j : Nat} {P : Prs} (z0 : sh[136]? = some (.inl 7)) (gs : gR me 136 3 = some A) (xA : sh[A]? = some (.inr (0, 200))) (hq : RepQ (gI me A) p P) (hj : j < P.2.1.length) (hp : p < 5) : CV d mX7_off sh [.ref 136, .int (nI p), .int (nI j)] me (fun m => ∃ f, m = uA me A f ∧ (∀ i, ¬ (40 * p ≤ i ∧ i < 40 * p + 40) → f i = gI me A i) ∧ RepQ f p (takeP P j)) := by
  have hro := rep_off hq hj
  obtain ⟨h1, h2, h3, h4, h5, h6, h7, h8⟩ := hq
  have key : ∀ fuel k, 4 * (P.2.1.length - 1) - k < fuel → 4 * j ≤ k → k ≤ 4 * (P.2.1.length - 1) → Wa mX7_off (0, fun _ => 0) d 0 0 sh.length (PV sh (fun m => ∃ f, m = uA me A f ∧ (∀ i, ¬ (40 * p ≤ i ∧ i < 40 * p + 40) → f i = gI me A i) ∧ RepQ f p (takeP P j))) 22 [.ref 136, .int (nI p), .int (nI j), .int (nI (40 * p)), .int (nI k)] [] sh (uA me A (offF (gI me A) p j P.2.1.length k)) 0 0 := by
    intro fuel
    induction fuel with
    | zero => intro k h; omega
    | succ fuel ih =>
      intro k hf hk1 hk2
      have k3 : gI (uA me A (offF (gI me A) p j P.2.1.length k)) A (40 * p + 3) = nI (P.2.1.length - 1) := by rw [gI_uAs]; unfold offF; rw [if_pos rfl]
      refine ld_i4 (np := 24) dX7_off_22 rfl ?_
      refine wl_iconst (np := 25) (v := nI 4) dX7_off_24 rfl (rfl) ?_
      refine ld_a0 (np := 26) dX7_off_25 rfl ?_
      refine wl_getr (np := 29) dX7_off_26 rfl fl_X7_16 rfl (by assumption) (by assumption) ?_
      refine ld_i3 (np := 30) dX7_off_29 rfl ?_
      refine wl_iconst (np := 31) (v := nI 3) dX7_off_30 rfl (rfl) ?_
      refine wl_iadd (np := 32) dX7_off_31 rfl ?_
      refine wl_ialoadN (np := 33) dX7_off_32 rfl (by first | (simp only [nIm, nIa, ← nI_succ]; exact rfl) | exact nI_z | exact nI_o | exact rfl) (by assumption) (by omega) (by decide) ?_
      refine wl_imul (np := 34) dX7_off_33 rfl ?_
      refine wl_icmp_ge (np := 37) (tg := 67) dX7_off_34 rfl rfl (fun c_34 => ?_) (fun c_34 => ?_)
      · rw [k3, nIm, nI_le_iff (by omega) (by omega)] at c_34
        refine wv_ret dX7_off_67 rfl (Nat.le_refl _) (Nat.le_refl _) ?_
        have hke : k = 4 * (P.2.1.length - 1) := by omega
        subst hke
        refine ⟨_, rfl, fun i hi => ?_, hro⟩
        unfold offF
        rw [if_neg (by omega), if_neg (by omega)]
      · rw [k3, nIm, nI_le_iff (by omega) (by omega)] at c_34
        refine ld_a0 (np := 38) dX7_off_37 rfl ?_
        refine wl_getr (np := 41) dX7_off_38 rfl fl_X7_16 rfl (by assumption) (by assumption) ?_
        refine ld_i3 (np := 42) dX7_off_41 rfl ?_
        refine wl_bipush (np := 44) (v := nI 8) dX7_off_42 rfl (by decide) ?_
        refine wl_iadd (np := 45) dX7_off_44 rfl ?_
        refine ld_i4 (np := 47) dX7_off_45 rfl ?_
        refine wl_iadd (np := 48) dX7_off_47 rfl ?_
        refine ld_a0 (np := 49) dX7_off_48 rfl ?_
        refine wl_getr (np := 52) dX7_off_49 rfl fl_X7_16 rfl (by assumption) (by assumption) ?_
        refine ld_i3 (np := 53) dX7_off_52 rfl ?_
        refine wl_bipush (np := 55) (v := nI 12) dX7_off_53 rfl (by decide) ?_
        refine wl_iadd (np := 56) dX7_off_55 rfl ?_
        refine ld_i4 (np := 58) dX7_off_56 rfl ?_
        refine wl_iadd (np := 59) dX7_off_58 rfl ?_
        refine wl_ialoadN (np := 60) dX7_off_59 rfl (by first | (simp only [nIm, nIa, ← nI_succ]; exact rfl) | exact nI_z | exact nI_o | exact rfl) (by assumption) (by omega) (by decide) ?_
        refine wl_iastoreN (np := 61) dX7_off_60 rfl (by first | (simp only [nIm, nIa, ← nI_succ]; exact rfl) | exact nI_z | exact nI_o | exact rfl) (by assumption) (by omega) (by decide) ?_
        refine inc_4 (np := 64) (v := _ + 1) dX7_off_61 rfl rfl (by decide) rfl ?_
        refine wl_goto (tg := 22) dX7_off_64 rfl ?_
        rw [uI_uA, ← nI_succ]
        have hg : upF (offF (gI me A) p j P.2.1.length k) (40 * p + 8 + k) (gI (uA me A (offF (gI me A) p j P.2.1.length k)) A (40 * p + 12 + k)) = offF (gI me A) p j P.2.1.length (k + 1) := by
          rw [gI_uAs]
          funext x
          by_cases hx : x = 40 * p + 8 + k
          · subst hx
            rw [upF_s]
            unfold offF
            rw [if_neg (by omega), if_neg (by omega), if_neg (by omega), if_pos (by omega)]
            congr 1
            omega
          · rw [upF_n hx]
            unfold offF
            by_cases h3 : x = 40 * p + 3
            · rw [if_pos h3, if_pos h3]
            · rw [if_neg h3, if_neg h3]
              exact if_iff (by omega)
        rw [hg]
        exact ih (k + 1) (by omega) (by omega) (by omega)
  refine CV.mk (L := [.ref 136, .int (nI p), .int (nI j), .float 0, .float 0]) (by decide) (Nat.le_of_ble_eq_true rfl) rfl ?_
  refine wl_bipush (np := 2) (v := nI 40) dX7_off_0 rfl (by decide) ?_
  refine ld_i1 (np := 3) dX7_off_2 rfl ?_
  refine wl_imul (np := 4) dX7_off_3 rfl ?_
  refine st_i3 (np := 5) dX7_off_4 rfl (by decide) rfl ?_
  refine ld_a0 (np := 6) dX7_off_5 rfl ?_
  refine wl_getr (np := 9) dX7_off_6 rfl fl_X7_16 rfl (by assumption) (by assumption) ?_
  refine ld_i3 (np := 10) dX7_off_9 rfl ?_
  refine wl_iconst (np := 11) (v := nI 3) dX7_off_10 rfl (rfl) ?_
  refine wl_iadd (np := 12) dX7_off_11 rfl ?_
  refine wl_dup2 (np := 13) dX7_off_12 rfl rfl rfl ?_
  refine wl_ialoadN (np := 14) dX7_off_13 rfl (by first | (simp only [nIm, nIa, ← nI_succ]; exact rfl) | exact nI_z | exact nI_o | exact rfl) (by assumption) (by omega) (by decide) ?_
  refine wl_iconst (np := 15) (v := 1) dX7_off_14 rfl (rfl) ?_
  refine wl_isub (np := 16) dX7_off_15 rfl ?_
  refine wl_iastoreN (np := 17) dX7_off_16 rfl (by first | (simp only [nIm, nIa, ← nI_succ]; exact rfl) | exact nI_z | exact nI_o | exact rfl) (by assumption) (by omega) (by decide) ?_
  refine wl_iconst (np := 18) (v := nI 4) dX7_off_17 rfl (rfl) ?_
  refine ld_i2 (np := 19) dX7_off_18 rfl ?_
  refine wl_imul (np := 20) dX7_off_19 rfl ?_
  refine st_i4 (np := 22) dX7_off_20 rfl (by decide) rfl ?_
  simp only [nIm]
  rw [uI_eq]
  have hg : upF (gI me A) (40 * p + 3) (gI me A (40 * p + 3) - 1) = offF (gI me A) p j P.2.1.length (4 * j) := by
    have e1 : nI P.2.1.length - 1 = nI (P.2.1.length - 1) := by
      obtain ⟨n, hn⟩ : ∃ n, P.2.1.length = n + 1 := ⟨P.2.1.length - 1, by omega⟩
      rw [hn]
      exact nI_pred n
    rw [h4, e1]
    funext x
    by_cases hx : x = 40 * p + 3
    · subst hx
      rw [upF_s]
      unfold offF
      rw [if_pos rfl]
    · rw [upF_n hx]
      unfold offF
      rw [if_neg hx, if_neg (by omega)]
  rw [hg]
  exact key (4 * (P.2.1.length - 1) + 1) (4 * j) (by omega) (by omega) (by omega)
set_option maxHeartbeats 4000000 in
set_option maxRecDepth 100000 in
theorem c_M_isBetween {p j : Nat} {P : Prs} (z0 : sh[136]? = some (.inl 7)) (g1 : gR me 136 1 = some 137) (x1 : sh[137]? = some (.inr (0, 200))) (hq : RepQ (gI me 137) p P) (hp : p < 5) : CI d mX7_isBetween sh [.ref 136, .int (nI p), .int (nI j)] me (fun x m => x = (if 0 < nI j ∧ nI j < nI P.2.1.length - 1 then 1 else 0) ∧ m = me) := by
  refine CI.mk (L := [.ref 136, .int (nI p), .int (nI j)]) (by decide) (Nat.le_of_ble_eq_true rfl) rfl ?_
  refine ld_i2 (np := 1) dX7_isBetween_0 rfl ?_
  refine wl_if_le (np := 4) (tg := 25) dX7_isBetween_1 rfl rfl (fun c_1 => ?_) (fun c_1 => ?_)
  · refine wl_iconst (np := 26) (v := 0) dX7_isBetween_25 rfl (rfl) ?_
    refine wi_ret dX7_isBetween_26 rfl (by decide) (Nat.le_refl _) (Nat.le_refl _) ?_
    exact ⟨(if_neg (fun h => absurd h.1 (Int32.not_lt.mpr c_1))).symm, rfl⟩
  · refine ld_i2 (np := 5) dX7_isBetween_4 rfl ?_
    refine ld_a0 (np := 6) dX7_isBetween_5 rfl ?_
    refine wl_getr (np := 9) dX7_isBetween_6 rfl fl_X7_7 rfl (by assumption) (by assumption) ?_
    refine wl_bipush (np := 11) (v := nI 40) dX7_isBetween_9 rfl (by decide) ?_
    refine ld_i1 (np := 12) dX7_isBetween_11 rfl ?_
    refine wl_imul (np := 13) dX7_isBetween_12 rfl ?_
    refine wl_iconst (np := 14) (v := nI 3) dX7_isBetween_13 rfl (rfl) ?_
    refine wl_iadd (np := 15) dX7_isBetween_14 rfl ?_
    refine wl_ialoadN (np := 16) dX7_isBetween_15 rfl (by first | (simp only [nIm, nIa, ← nI_succ]; exact rfl) | exact nI_z | exact nI_o | exact rfl) (by assumption) (by omega) (by decide) ?_
    refine wl_iconst (np := 17) (v := 1) dX7_isBetween_16 rfl (rfl) ?_
    refine wl_isub (np := 18) dX7_isBetween_17 rfl ?_
    refine wl_icmp_ge (np := 21) (tg := 25) dX7_isBetween_18 rfl rfl (fun c_18 => ?_) (fun c_18 => ?_)
    · rw [hq.2.2.2.1] at c_18
      refine wl_iconst (np := 26) (v := 0) dX7_isBetween_25 rfl (rfl) ?_
      refine wi_ret dX7_isBetween_26 rfl (by decide) (Nat.le_refl _) (Nat.le_refl _) ?_
      exact ⟨(if_neg (fun h => absurd h.2 (Int32.not_lt.mpr c_18))).symm, rfl⟩
    · rw [hq.2.2.2.1] at c_18
      refine wl_iconst (np := 22) (v := 1) dX7_isBetween_21 rfl (rfl) ?_
      refine wl_goto (tg := 26) dX7_isBetween_22 rfl ?_
      refine wi_ret dX7_isBetween_26 rfl (by decide) (Nat.le_refl _) (Nat.le_refl _) ?_
      exact ⟨(if_pos ⟨Int32.not_le.mp c_1, Int32.not_le.mp c_18⟩).symm, rfl⟩
set_option maxHeartbeats 4000000 in
set_option maxRecDepth 100000 in
theorem c_M_pay (p c : Int32) (hF : FixM sh me) (hR : RepM me S) (hd : 3 ≤ d) : CI d mX7_pay sh [.ref 136, .int p, .int c] me (fun x m => x = (sp_pay S p c).1 ∧ GoodM sh me m (sp_pay S p c).2) := by
  have hFs := hF
  obtain ⟨z0, ⟨x1, x2, x4, x5, x6, x10, x11, x12, x16, x17, x18, x21, x22, x24, x25, x26, x27⟩, ⟨g1, g2, g4, g5, g6, g10, g11, g12, g16, g17, g18, g21, g22, g24, g25, g26, g27⟩, gs⟩ := hF
  have hn5 := hR.1.1.1
  refine CI.mk (L := [.ref 136, .int p, .int c, .float 0, .float 0]) (by decide) (Nat.le_of_ble_eq_true rfl) rfl ?_
  refine ld_a0 (np := 1) dX7_pay_0 rfl ?_
  refine ld_i1 (np := 2) dX7_pay_1 rfl ?_
  refine ld_i2 (np := 3) dX7_pay_2 rfl ?_
  refine ciV_2 (np := 6) dX7_pay_3 rfl lk_X7_91 (by assumption) (Nat.le_of_ble_eq_true rfl) (by omega) (Nat.le_refl _) (Nat.le_refl _) (c_M_isCoat p c hFs hR (by omega)) (fun x_3 m_3 h_3 => ?_)
  obtain ⟨h3, q3⟩ := h_3
  have q3 := q3.symm
  subst q3
  refine wl_if_ne (np := 9) (tg := 11) dX7_pay_6 rfl rfl (fun c_6 => ?_) (fun c_6 => ?_)
  · have hct := or1 h3 c_6
    obtain ⟨k, P, j, hPk, rfl, hj, rfl⟩ := or1 h3 c_6
    have hk := (List.getElem?_eq_some_iff.mp hPk).1
    have hq := hR.1.1.2 k P hPk
    have h8 := hq.2.2.2.2.1
    obtain ⟨co, hco⟩ : ∃ co, P.2.1[j]? = some co := ⟨_, List.getElem?_eq_getElem hj⟩
    have hgc : getC P (nI j) = co := by
      unfold getC
      rw [nI_clamp (by omega), hco]
      rfl
    have hlaw := hR.1.2.2.2.2.1
    unfold sp_pay
    rw [cif_t hct, getP_nI hPk (by omega), hgc, nI_clamp (by omega), nI_clamp (by omega)]
    refine wl_bipush (np := 13) (v := nI 40) dX7_pay_11 rfl (by decide) ?_
    refine ld_i1 (np := 14) dX7_pay_13 rfl ?_
    refine wl_imul (np := 15) dX7_pay_14 rfl ?_
    refine st_i3 (np := 16) dX7_pay_15 rfl (by decide) rfl ?_
    refine ld_a0 (np := 17) dX7_pay_16 rfl ?_
    refine ld_i2 (np := 18) dX7_pay_17 rfl ?_
    refine ld_a0 (np := 19) dX7_pay_18 rfl ?_
    refine wl_getr (np := 22) dX7_pay_19 rfl fl_X7_7 rfl (by assumption) (by assumption) ?_
    refine ld_i3 (np := 23) dX7_pay_22 rfl ?_
    refine wl_iconst (np := 24) (v := nI 3) dX7_pay_23 rfl (rfl) ?_
    refine wl_iadd (np := 25) dX7_pay_24 rfl ?_
    refine wl_ialoadN (np := 26) dX7_pay_25 rfl (by first | (simp only [nIm, nIa, ← nI_succ]; exact rfl) | exact nI_z | exact nI_o | exact rfl) (by assumption) (by omega) (by decide) ?_
    refine ciV_2 (np := 29) dX7_pay_26 rfl lk_X7_170 (by assumption) (Nat.le_of_ble_eq_true rfl) (by omega) (Nat.le_refl _) (Nat.le_refl _) (by rw [hq.2.2.2.1]; exact c_M_mayOff z0 g6 x6 h8 hj) (fun x_26 m_26 h_26 => ?_)
    obtain ⟨h26, q26⟩ := h_26
    have q26 := q26.symm
    subst q26
    rw [hlaw] at h26
    simp only [nIm]
    refine wl_if_ne (np := 32) (tg := 35) dX7_pay_29 rfl rfl (fun c_29 => ?_) (fun c_29 => ?_)
    · rw [cif_t (or1 h26 c_29)]
      refine ld_a0 (np := 36) dX7_pay_35 rfl ?_
      refine wl_getr (np := 39) dX7_pay_36 rfl fl_X7_7 rfl (by assumption) (by assumption) ?_
      refine ld_i3 (np := 40) dX7_pay_39 rfl ?_
      refine wl_bipush (np := 42) (v := nI 8) dX7_pay_40 rfl (by decide) ?_
      refine wl_iadd (np := 43) dX7_pay_42 rfl ?_
      refine wl_iconst (np := 44) (v := nI 4) dX7_pay_43 rfl (rfl) ?_
      refine ld_i2 (np := 45) dX7_pay_44 rfl ?_
      refine wl_imul (np := 46) dX7_pay_45 rfl ?_
      refine wl_iadd (np := 47) dX7_pay_46 rfl ?_
      refine wl_iconst (np := 48) (v := 1) dX7_pay_47 rfl (rfl) ?_
      refine wl_iadd (np := 49) dX7_pay_48 rfl ?_
      refine wl_ialoadN (np := 50) dX7_pay_49 rfl (by first | (simp only [nIm, nIa, ← nI_succ]; exact rfl) | exact nI_z | exact nI_o | exact rfl) (by assumption) (by omega) (by decide) ?_
      refine st_i4 (np := 52) dX7_pay_50 rfl (by decide) rfl ?_
      refine ld_a0 (np := 53) dX7_pay_52 rfl ?_
      refine wl_getr (np := 56) dX7_pay_53 rfl fl_X7_7 rfl (by assumption) (by assumption) ?_
      refine ld_i3 (np := 57) dX7_pay_56 rfl ?_
      refine wl_ialoadN (np := 58) dX7_pay_57 rfl (by first | (simp only [nIm, nIa, ← nI_succ]; exact rfl) | exact nI_z | exact nI_o | exact rfl) (by assumption) (by omega) (by decide) ?_
      refine ld_i4 (np := 60) dX7_pay_58 rfl ?_
      refine wl_icmp_ge (np := 63) (tg := 66) dX7_pay_60 rfl rfl (fun c_60 => ?_) (fun c_60 => ?_)
      · rw [hq.1, (hq.2.2.2.2.2.2.2 j co hco).2.1] at c_60
        rw [cif_f (Int32.not_lt.mpr c_60)]
        have gs2 : gR (uR me 136 3 (some 137)) 136 3 = some 137 := by rw [gR_uR, if_pos ⟨rfl, rfl⟩]
        have gr1 : ∀ b, b ≠ 3 → gR (uR me 136 3 (some 137)) 136 b = gR me 136 b := fun b hb => by rw [gR_uR, if_neg (fun q => hb q.2)]
        have g1' := (gr1 1 (by omega)).trans g1
        refine ld_a0 (np := 67) dX7_pay_66 rfl ?_
        refine ld_a0 (np := 68) dX7_pay_67 rfl ?_
        refine wl_getr (np := 71) dX7_pay_68 rfl fl_X7_7 rfl (by assumption) (by assumption) ?_
        refine wl_putr (np := 74) dX7_pay_71 rfl fl_X7_16 nf_7_3 rfl (by assumption) ?_
        refine ld_a0 (np := 75) dX7_pay_74 rfl ?_
        refine wl_getr (np := 78) dX7_pay_75 rfl fl_X7_7 rfl (by assumption) (by assumption) ?_
        refine ld_i3 (np := 79) dX7_pay_78 rfl ?_
        refine wl_dup2 (np := 80) dX7_pay_79 rfl rfl rfl ?_
        refine wl_ialoadN (np := 81) dX7_pay_80 rfl (by first | (simp only [nIm, nIa, ← nI_succ]; exact rfl) | exact nI_z | exact nI_o | exact rfl) (by assumption) (by omega) (by decide) ?_
        refine ld_i4 (np := 83) dX7_pay_81 rfl ?_
        refine wl_isub (np := 84) dX7_pay_83 rfl ?_
        refine wl_iastoreN (np := 85) dX7_pay_84 rfl (by first | (simp only [nIm, nIa, ← nI_succ]; exact rfl) | exact nI_z | exact nI_o | exact rfl) (by assumption) (by omega) (by decide) ?_
        rw [uI_eq]
        have hq2 : RepQ (upF (gI (uR me 136 3 (some 137)) 137) (40 * k) (gI (uR me 136 3 (some 137)) 137 (40 * k) - gI me 137 (40 * k + 8 + 4 * j + 1))) k ((P.1.1 - co.2.1, P.1.2), P.2) := by
          have en : gI (uR me 136 3 (some 137)) 137 = gI me 137 := rfl
          rw [en]
          obtain ⟨y1, y2, y3, y4, y5, y6, y7, y8⟩ := hq
          refine ⟨?_, ?_, ?_, ?_, y5, ?_, ?_, fun c co' hc => ?_⟩
          · rw [upF_s, y1, (y8 j co hco).2.1]
          · rw [upF_n (by omega)]; exact y2
          · rw [upF_n (by omega)]; exact y3
          · rw [upF_n (by omega)]; exact y4
          · rw [upF_n (by omega)]; exact y6
          · rw [upF_n (by omega)]; exact y7
          · rw [upF_n (by omega), upF_n (by omega), upF_n (by omega), upF_n (by omega)]
            exact y8 c co' hc
        generalize hG : upF (gI (uR me 136 3 (some 137)) 137) (40 * k) (gI (uR me 136 3 (some 137)) 137 (40 * k) - gI me 137 (40 * k + 8 + 4 * j + 1)) = G at hq2 ⊢
        have hGf : ∀ i, ¬ (40 * k ≤ i ∧ i < 40 * k + 40) → G i = gI me 137 i := fun i hi => by
          rw [← hG, upF_n (by omega)]
          rfl
        refine ld_a0 (np := 86) dX7_pay_85 rfl ?_
        refine ld_i1 (np := 87) dX7_pay_86 rfl ?_
        refine ld_i2 (np := 88) dX7_pay_87 rfl ?_
        refine cvV_2 (np := 91) dX7_pay_88 rfl lk_X7_173 (by assumption) (Nat.le_of_ble_eq_true rfl) (by omega) (Nat.le_refl _) (Nat.le_refl _) (c_M_off (A := 137) (P := ((P.1.1 - co.2.1, P.1.2), P.2)) z0 gs2 x1 (by rw [gI_uAs]; exact hq2) hj (by omega)) (fun m_88 h_88 => ?_)
        obtain ⟨f, rfl, hf1, hf2⟩ := h_88
        rw [uA_uA]
        refine ld_a0 (np := 92) dX7_pay_91 rfl ?_
        refine wl_getr (np := 95) dX7_pay_92 rfl fl_X7_7 rfl (by assumption) (by assumption) ?_
        refine ld_i3 (np := 96) dX7_pay_95 rfl ?_
        refine wl_iconst (np := 97) (v := nI 3) dX7_pay_96 rfl (rfl) ?_
        refine wl_iadd (np := 98) dX7_pay_97 rfl ?_
        refine wl_ialoadN (np := 99) dX7_pay_98 rfl (by first | (simp only [nIm, nIa, ← nI_succ]; exact rfl) | exact nI_z | exact nI_o | exact rfl) (by assumption) (by omega) (by decide) ?_
        refine wi_ret dX7_pay_99 rfl (rfl) (Nat.le_refl _) (Nat.le_refl _) ?_
        rw [gI_uAs]
        have hpy : payP P j = takeP ((P.1.1 - co.2.1, P.1.2), P.2) j := by
          unfold payP takeP
          rw [hco]
          rfl
        rw [hpy]
        refine ⟨?_, GoodM.p hFs hR rfl (rfm_now rfl (Or.inl rfl)) hk (fun i hi => ?_) hf2 (hR.1.2.1 k P hPk)⟩
        · rw [hf2.2.2.2.1]
          unfold takeP
          dsimp only
          rw [List.length_eraseIdx, if_pos hj]
        · rw [hf1 i hi, gI_uAs]
          exact hGf i hi
      · rw [hq.1, (hq.2.2.2.2.2.2.2 j co hco).2.1] at c_60
        rw [cif_t (Int32.not_le.mp c_60)]
        refine wl_bipush (np := 65) (v := -4) dX7_pay_63 rfl (by decide) ?_
        refine wi_ret dX7_pay_65 rfl (rfl) (Nat.le_refl _) (Nat.le_refl _) ?_
        exact ⟨rfl, GoodM.same hFs hR⟩
    · rw [cif_f (or0 h26 c_29)]
      refine wl_bipush (np := 34) (v := -2) dX7_pay_32 rfl (by decide) ?_
      refine wi_ret dX7_pay_34 rfl (rfl) (Nat.le_refl _) (Nat.le_refl _) ?_
      exact ⟨rfl, GoodM.same hFs hR⟩
  · unfold sp_pay
    rw [cif_f (or0 h3 c_6)]
    refine wl_iconst (np := 10) (v := -1) dX7_pay_9 rfl (rfl) ?_
    refine wi_ret dX7_pay_10 rfl (rfl) (Nat.le_refl _) (Nat.le_refl _) ?_
    exact ⟨rfl, GoodM.same hFs hR⟩
end M4
