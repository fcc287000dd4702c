/-! ===== the reference: where its things lie, what they mean ===== -/
theorem nIm (a b : Nat) : nI a * nI b = nI (a * b) := (Int32.ofNat_mul a b).symm
theorem nIa (a b : Nat) : nI a + nI b = nI (a + b) := nI_add a b
section MRULES
variable {M : MR} {sx : Scr} {d mc ms n0 : Nat} {Q : Post} {pc np tg : Nat} {L st : List Value} {sh : List Shp} {me : Mem} {cs sl : Nat}
theorem wl_ialoadN {a j n : Nat} {i : Int32} (hd : decode M.2.1 pc = .ok (.iaload, 1)) (hn : pc + 1 = np) (hx : i = nI j) (hs : sh[a]? = some (.inr (0, n))) (hj : j < n) (h31 : n < 2 ^ 31) (k : Wa M sx d mc ms n0 Q np L (.int (gI me a j) :: st) sh me cs sl) : Wa M sx d mc ms n0 Q pc L (.int i :: .ref a :: st) sh me cs sl := by
  subst hx
  refine wl_iaload hd hn (inA_n hs hj h31) ?_
  rw [nI_clamp (by omega)]
  exact k
theorem wl_iastoreN {a j n : Nat} {i x : Int32} (hd : decode M.2.1 pc = .ok (.iastore, 1)) (hn : pc + 1 = np) (hx : i = nI j) (hs : sh[a]? = some (.inr (0, n))) (hj : j < n) (h31 : n < 2 ^ 31) (k : Wa M sx d mc ms n0 Q np L st sh (uI me a j x) cs sl) : Wa M sx d mc ms n0 Q pc L (.int x :: .int i :: .ref a :: st) sh me cs sl := by
  subst hx
  refine wl_iastore hd hn (inA_n hs hj h31) ?_
  rw [nI_clamp (by omega)]
  exact k
end MRULES
/-- one of the people in a row of numbers -/
def RepQ (N : Nat → Int32) (p : Nat) (P : Prs) : Prop := N (40 * p) = P.1.1 ∧ N (40 * p + 1) = P.1.2.1 ∧ N (40 * p + 2) = P.1.2.2.1 ∧ N (40 * p + 3) = nI P.2.1.length ∧ P.2.1.length ≤ 8 ∧ N (40 * p + 4) = P.1.2.2.2 ∧ N (40 * p + 5) = (if P.1.2.2.2 = -4 then 0 else 1) ∧ ∀ c co, P.2.1[c]? = some co → N (40 * p + 8 + 4 * c) = co.1 ∧ N (40 * p + 8 + 4 * c + 1) = co.2.1 ∧ N (40 * p + 8 + 4 * c + 2) = co.2.2.1 ∧ N (40 * p + 8 + 4 * c + 3) = co.2.2.2
def RepT (T : Nat → Int32) (p : Nat) (P : Prs) : Prop := ∀ l, l < 5 → T (5 * p + l) = P.2.2 l
def RepN (N : Nat → Int32) (ps : List Prs) : Prop := ps.length ≤ 5 ∧ ∀ p P, ps[p]? = some P → RepQ N p P
def RepTs (T : Nat → Int32) (ps : List Prs) : Prop := ∀ p P, ps[p]? = some P → RepT T p P
theorem RepQ.fr {N N' : Nat → Int32} {p : Nat} {P : Prs} (h : RepQ N p P) (hf : ∀ i, 40 * p ≤ i → i < 40 * p + 40 → N' i = N i) : RepQ N' p P := by
  obtain ⟨h1, h2, h3, h4, h5, h6, h7, h8⟩ := h
  refine ⟨(hf _ (by omega) (by omega)).trans h1, (hf _ (by omega) (by omega)).trans h2, (hf _ (by omega) (by omega)).trans h3, (hf _ (by omega) (by omega)).trans h4, h5, (hf _ (by omega) (by omega)).trans h6, (hf _ (by omega) (by omega)).trans h7, fun c co hc => ?_⟩
  have hlt := (List.getElem?_eq_some_iff.mp hc).1
  obtain ⟨e1, e2, e3, e4⟩ := h8 c co hc
  exact ⟨(hf _ (by omega) (by omega)).trans e1, (hf _ (by omega) (by omega)).trans e2, (hf _ (by omega) (by omega)).trans e3, (hf _ (by omega) (by omega)).trans e4⟩
theorem RepN.fr {N N' : Nat → Int32} {ps : List Prs} (h : RepN N ps) (hf : ∀ i, i < 200 → N' i = N i) : RepN N' ps := by
  refine ⟨h.1, fun p P hp => (h.2 p P hp).fr (fun i h1 h2 => hf i ?_)⟩
  have := (List.getElem?_eq_some_iff.mp hp).1
  have := h.1
  omega
theorem RepTs.fr {T T' : Nat → Int32} {ps : List Prs} (h : RepTs T ps) (h5 : ps.length ≤ 5) (hf : ∀ i, i < 25 → T' i = T i) : RepTs T' ps := by
  intro p P hp l hl
  have := (List.getElem?_eq_some_iff.mp hp).1
  exact (hf _ (by omega)).trans (h p P hp l hl)
/-- a world in rows of numbers -/
def RepV (N T H L A B : Nat → Int32) (pe dy cu wa : Int32) (W : Wld) : Prop := RepN N W.1 ∧ RepTs T W.1 ∧ pe = nI W.1.length ∧ (∀ i, i < 12 → H i = W.2.1 i) ∧ L 0 = W.2.2.1.1 ∧ L 1 = W.2.2.1.2.1 ∧ cu = W.2.2.1.2.2 ∧ dy = nI W.2.2.2.1 ∧ W.2.2.2.1 ≤ 359 ∧ wa = nI W.2.2.2.2.length ∧ W.2.2.2.2.length ≤ 8 ∧ ∀ k x, W.2.2.2.2[k]? = some x → A k = x.1 ∧ B k = x.2
theorem RepV.fr {N T H L A B N' T' H' L' A' B' : Nat → Int32} {pe dy cu wa : Int32} {W : Wld} (h : RepV N T H L A B pe dy cu wa W) (hN : ∀ i, i < 200 → N' i = N i) (hT : ∀ i, i < 25 → T' i = T i) (hH : ∀ i, i < 12 → H' i = H i) (hL : ∀ i, i < 2 → L' i = L i) (hA : ∀ i, i < 8 → A' i = A i) (hB : ∀ i, i < 8 → B' i = B i) : RepV N' T' H' L' A' B' pe dy cu wa W := by
  obtain ⟨h1, h2, h3, h4, h5, h6, h7, h8, h9, h10, h11, h12⟩ := h
  refine ⟨h1.fr hN, h2.fr h1.1 hT, h3, fun i hi => (hH i hi).trans (h4 i hi), (hL 0 (by omega)).trans h5, (hL 1 (by omega)).trans h6, h7, h8, h9, h10, h11, fun k x hk => ?_⟩
  have := (List.getElem?_eq_some_iff.mp hk).1
  exact ⟨(hA k (by omega)).trans (h12 k x hk).1, (hB k (by omega)).trans (h12 k x hk).2⟩
def RepSM (LN SZ IT : Nat → Int32) (k : Nat) (T : Sht) : Prop := match T with
  | none => LN k = -1
  | some (lane, n, f) => LN k = lane ∧ ¬ lane < 0 ∧ SZ k = nI n ∧ n ≤ 24 ∧ ∀ i, i < n → IT (24 * k + i) = f i
def NowM (me : Mem) (W : Wld) : Prop := RepV (gI me 137) (gI me 139) (gI me 140) (gI me 141) (gI me 142) (gI me 143) (gI me 136 0) (gI me 136 7) (gI me 136 8) (gI me 136 9) W
def ImgM (me : Mem) : Option Wld → Prop
  | none => gI me 136 23 = 0
  | some V => gI me 136 23 = 1 ∧ RepV (gI me 149) (fun i => gI me 149 (200 + i)) (fun i => gI me 149 (225 + i)) (fun i => gI me 149 (237 + i)) (fun i => gI me 149 (239 + i)) (fun i => gI me 149 (247 + i)) (gI me 149 255) (gI me 149 256) (gI me 149 257) (gI me 149 258) V
def TapM (me : Mem) (t : Nat × (Nat → Int32)) : Prop := gI me 136 13 = nI t.1 ∧ t.1 ≤ 80 ∧ ∀ i, i < t.1 → gI me 144 i = t.2 i
def RepM (me : Mem) (S : St) : Prop := NowM me S.1 ∧ ImgM me S.2.1 ∧ TapM me S.2.2.1 ∧ ∀ k, k < 4 → RepSM (gI me 150) (gI me 151) (gI me 152) k (S.2.2.2 k)
def FixM (sh : List Shp) (me : Mem) : Prop := sh[136]? = some (.inl 7) ∧ (sh[137]? = some (.inr (0, 200)) ∧ sh[138]? = some (.inr (0, 200)) ∧ sh[139]? = some (.inr (0, 25)) ∧ sh[140]? = some (.inr (0, 12)) ∧ sh[141]? = some (.inr (0, 2)) ∧ sh[142]? = some (.inr (0, 8)) ∧ sh[143]? = some (.inr (0, 8)) ∧ sh[144]? = some (.inr (0, 80)) ∧ sh[145]? = some (.inr (0, 24)) ∧ sh[146]? = some (.inr (0, 6)) ∧ sh[147]? = some (.inr (0, 6)) ∧ sh[148]? = some (.inr (0, 40)) ∧ sh[149]? = some (.inr (0, 270)) ∧ sh[150]? = some (.inr (0, 4)) ∧ sh[151]? = some (.inr (0, 4)) ∧ sh[152]? = some (.inr (0, 96)) ∧ sh[153]? = some (.inr (0, 24))) ∧
  (gR me 136 1 = some 137 ∧ gR me 136 2 = some 138 ∧ gR me 136 4 = some 139 ∧ gR me 136 5 = some 140 ∧ gR me 136 6 = some 141 ∧ gR me 136 10 = some 142 ∧ gR me 136 11 = some 143 ∧ gR me 136 12 = some 144 ∧ gR me 136 16 = some 145 ∧ gR me 136 17 = some 146 ∧ gR me 136 18 = some 147 ∧ gR me 136 21 = some 148 ∧ gR me 136 22 = some 149 ∧ gR me 136 24 = some 150 ∧ gR me 136 25 = some 151 ∧ gR me 136 26 = some 152 ∧ gR me 136 27 = some 153) ∧ (gR me 136 3 = some 137 ∨ gR me 136 3 = some 138)
def RfM (me m : Mem) : Prop := (∀ a b, (a ≠ 136 ∨ b ≠ 3) → gR m a b = gR me a b) ∧ (gR m 136 3 = gR me 136 3 ∨ gR m 136 3 = some 137 ∨ gR m 136 3 = some 138)
theorem RfM.of {me m : Mem} (h : m.2 = me.2) : RfM me m := ⟨fun a b _ => by unfold gR; rw [h], Or.inl (by unfold gR; rw [h])⟩
theorem RfM.tr {me m m' : Mem} (h : RfM me m) (h' : RfM m m') : RfM me m' := ⟨fun a b hab => (h'.1 a b hab).trans (h.1 a b hab), by
  rcases h'.2 with q | q
  · rw [q]; exact h.2
  · exact Or.inr q⟩
theorem FixM.of {sh : List Shp} {me m : Mem} (h : FixM sh me) (hk : RfM me m) : FixM sh m := by
  obtain ⟨h0, h1, ⟨g1, g2, g4, g5, g6, g10, g11, g12, g16, g17, g18, g21, g22, g24, g25, g26, g27⟩, gs⟩ := h
  refine ⟨h0, h1, ⟨(hk.1 _ _ (by omega)).trans g1, (hk.1 _ _ (by omega)).trans g2, (hk.1 _ _ (by omega)).trans g4, (hk.1 _ _ (by omega)).trans g5, (hk.1 _ _ (by omega)).trans g6, (hk.1 _ _ (by omega)).trans g10, (hk.1 _ _ (by omega)).trans g11, (hk.1 _ _ (by omega)).trans g12, (hk.1 _ _ (by omega)).trans g16, (hk.1 _ _ (by omega)).trans g17, (hk.1 _ _ (by omega)).trans g18, (hk.1 _ _ (by omega)).trans g21, (hk.1 _ _ (by omega)).trans g22, (hk.1 _ _ (by omega)).trans g24, (hk.1 _ _ (by omega)).trans g25, (hk.1 _ _ (by omega)).trans g26, (hk.1 _ _ (by omega)).trans g27⟩, ?_⟩
  rcases hk.2 with q | q
  · rw [q]; exact gs
  · exact q
def GoodM (sh : List Shp) (me m : Mem) (S : St) : Prop := RepM m S ∧ FixM sh m ∧ RfM me m ∧ ∀ a, a < 136 → m.1 a = me.1 a
theorem GoodM.same {sh : List Shp} {me : Mem} {S : St} (hF : FixM sh me) (hR : RepM me S) : GoodM sh me me S := ⟨hR, hF, RfM.of rfl, fun _ _ => rfl⟩
/-- what is lasting of the reference's cells is the same -/
def LastM (me m : Mem) : Prop := (∀ b, b ≠ 14 → b ≠ 15 → b ≠ 19 → b ≠ 20 → gI m 136 b = gI me 136 b) ∧ gI m 137 = gI me 137 ∧ (∀ a, 139 ≤ a → a < 145 → gI m a = gI me a) ∧ ∀ a, 149 ≤ a → a < 153 → gI m a = gI me a
theorem RepM.last {me m : Mem} {S : St} (h : RepM me S) (hl : LastM me m) : RepM m S := by
  obtain ⟨l1, l2, l3, l4⟩ := hl
  obtain ⟨h1, h2, ⟨h3, h4, h5⟩, h6⟩ := h
  refine ⟨?_, ?_, ⟨(l1 _ (by omega) (by omega) (by omega) (by omega)).trans h3, h4, fun i hi => (congrFun (l3 144 (by omega) (by omega)) i).trans (h5 i hi)⟩, fun k hk => ?_⟩
  · unfold NowM at *
    rw [l2, l3 139 (by omega) (by omega), l3 140 (by omega) (by omega), l3 141 (by omega) (by omega), l3 142 (by omega) (by omega), l3 143 (by omega) (by omega), l1 0 (by omega) (by omega) (by omega) (by omega), l1 7 (by omega) (by omega) (by omega) (by omega), l1 8 (by omega) (by omega) (by omega) (by omega), l1 9 (by omega) (by omega) (by omega) (by omega)]
    exact h1
  · cases hI : S.2.1 with
    | none => rw [hI] at h2; exact (l1 23 (by omega) (by omega) (by omega) (by omega)).trans h2
    | some V =>
      rw [hI] at h2
      unfold ImgM at *
      rw [l1 23 (by omega) (by omega) (by omega) (by omega), l4 149 (by omega) (by omega)]
      exact h2
  · rw [l4 150 (by omega) (by omega), l4 151 (by omega) (by omega), l4 152 (by omega) (by omega)]
    exact h6 k hk
theorem GoodM.last {sh : List Shp} {me m : Mem} {S : St} (hF : FixM sh me) (hR : RepM me S) (hk : RfM me m) (hl : LastM me m) (hm : ∀ a, a < 136 → m.1 a = me.1 a) : GoodM sh me m S := ⟨hR.last hl, hF.of hk, hk, hm⟩
theorem i64_le (x y : Int32) : x.toInt64 ≤ y.toInt64 ↔ x ≤ y := by
  rw [Int64.le_iff_toInt_le, Int32.le_iff_toInt_le, Int32.toInt_toInt64, Int32.toInt_toInt64]
section MBASE
variable {sh : List Shp} {me : Mem} {d : Nat} {S : St}
set_option maxHeartbeats 4000000 in
set_option maxRecDepth 100000 in
theorem c_in64 (v a b : Int64) : CI d mX7_in sh [.long v, .long a, .long b] me (fun x m => x = (if a ≤ v ∧ v ≤ b then 1 else 0) ∧ m = me) := by
  refine CI.mk (L := [.long v, .float 0, .long a, .float 0, .long b, .float 0]) (by decide) (Nat.le_of_ble_eq_true rfl) rfl ?_
  refine ld_l0 (np := 1) dX7_in_0 rfl ?_
  refine ld_l2 (np := 2) dX7_in_1 rfl ?_
  refine wl_lcmp (np := 3) dX7_in_2 rfl ?_
  refine wl_if_lt (np := 6) (tg := 17) dX7_in_3 rfl rfl (fun c_3 => ?_) (fun c_3 => ?_)
  · refine wl_iconst (np := 18) (v := 0) dX7_in_17 rfl (rfl) ?_
    refine wi_ret dX7_in_18 rfl (by decide) (Nat.le_refl _) (Nat.le_refl _) ?_
    exact ⟨(if_neg (fun q => absurd ((lg_cmp_ge v a).mpr q.1) (Int32.not_le.mpr c_3))).symm, rfl⟩
  · refine ld_l0 (np := 7) dX7_in_6 rfl ?_
    refine ld_l4 (np := 9) dX7_in_7 rfl ?_
    refine wl_lcmp (np := 10) dX7_in_9 rfl ?_
    refine wl_if_gt (np := 13) (tg := 17) dX7_in_10 rfl rfl (fun c_10 => ?_) (fun c_10 => ?_)
    · refine wl_iconst (np := 18) (v := 0) dX7_in_17 rfl (rfl) ?_
      refine wi_ret dX7_in_18 rfl (by decide) (Nat.le_refl _) (Nat.le_refl _) ?_
      exact ⟨(if_neg (fun q => absurd ((lg_cmp_le v b).mpr q.2) (Int32.not_le.mpr c_10))).symm, rfl⟩
    · refine wl_iconst (np := 14) (v := 1) dX7_in_13 rfl (rfl) ?_
      refine wl_goto (tg := 18) dX7_in_14 rfl ?_
      refine wi_ret dX7_in_18 rfl (by decide) (Nat.le_refl _) (Nat.le_refl _) ?_
      exact ⟨(if_pos ⟨(lg_cmp_ge v a).mp (Int32.not_lt.mp c_3), (lg_cmp_le v b).mp (Int32.not_lt.mp c_10)⟩).symm, rfl⟩
theorem if_iff {P Q : Prop} [Decidable P] [Decidable Q] {x y : Int32} (h : P ↔ Q) : (if P then x else y) = if Q then x else y := by
  by_cases hQ : Q
  · rw [if_pos (h.mpr hQ), if_pos hQ]
  · rw [if_neg (fun q => hQ (h.mp q)), if_neg hQ]
theorem c_in32 (v a b : Int32) {A B : Int64} (hA : A = a.toInt64) (hB : B = b.toInt64) : CI d mX7_in sh [.long v.toInt64, .long A, .long B] me (fun x m => x = (if a ≤ v ∧ v ≤ b then 1 else 0) ∧ m = me) := by
  subst hA
  subst hB
  refine (c_in64 _ _ _).mono (fun x m h => ⟨h.1.trans (if_iff ?_), h.2⟩)
  rw [i64_le, i64_le]
set_option maxHeartbeats 4000000 in
set_option maxRecDepth 100000 in
theorem c_M_isOne (p : Int32) {n : Nat} (z0 : sh[136]? = some (.inl 7)) (hn : gI me 136 0 = nI n) (hn5 : n ≤ 5) (hd : 1 ≤ d) : CI d mX7_isOne sh [.ref 136, .int p] me (fun x m => (x = 1 ∧ (∃ k, k < n ∧ p = nI k) ∨ x = 0 ∧ ¬ ∃ k, k < n ∧ p = nI k) ∧ m = me) := by
  refine CI.mk (L := [.ref 136, .int p]) (by decide) (Nat.le_of_ble_eq_true rfl) rfl ?_
  refine ld_i1 (np := 1) dX7_isOne_0 rfl ?_
  refine wl_i2l (np := 2) dX7_isOne_1 rfl ?_
  refine wl_lconst (np := 3) (v := 0) dX7_isOne_2 rfl rfl ?_
  refine ld_a0 (np := 4) dX7_isOne_3 rfl ?_
  refine wl_geti (np := 7) dX7_isOne_4 rfl fl_X7_64 (by decide) (by assumption) ?_
  refine wl_iconst (np := 8) (v := 1) dX7_isOne_7 rfl (rfl) ?_
  refine wl_isub (np := 9) dX7_isOne_8 rfl ?_
  refine wl_i2l (np := 10) dX7_isOne_9 rfl ?_
  refine ciS_3 (np := 13) dX7_isOne_10 rfl lk_X7_68 (Nat.le_of_ble_eq_true rfl) (by omega) (Nat.le_refl _) (Nat.le_refl _) (c_in32 _ 0 _ (by decide) rfl) (fun x_10 m_10 h_10 => ?_)
  obtain ⟨rfl, q_10⟩ := h_10
  have q_10 := q_10.symm
  subst q_10
  refine wi_ret dX7_isOne_13 rfl (wi_nar) (Nat.le_refl _) (Nat.le_refl _) ?_
  refine ⟨?_, rfl⟩
  have h := if_or (x := if 0 ≤ p ∧ p ≤ gI me 136 0 - 1 then 1 else 0) rfl
  have e : (0 ≤ p ∧ p ≤ gI me 136 0 - 1) ↔ ∃ k, k < n ∧ p = nI k := by rw [hn]; exact in_iff (by omega) p
  rcases h with ⟨h1, h2⟩ | ⟨h1, h2⟩
  · exact Or.inl ⟨h1, e.mp h2⟩
  · exact Or.inr ⟨h1, fun q => h2 (e.mpr q)⟩
set_option maxHeartbeats 4000000 in
set_option maxRecDepth 100000 in
theorem c_M_isLender (v : Int32) (hd : 1 ≤ d) : CI d mX7_isLender sh [.int v] me (fun x m => x = (if 0 ≤ v ∧ v ≤ 4 then 1 else 0) ∧ m = me) := by
  refine CI.mk (L := [.int v]) (by decide) (Nat.le_of_ble_eq_true rfl) rfl ?_
  refine ld_i0 (np := 1) dX7_isLender_0 rfl ?_
  refine wl_i2l (np := 2) dX7_isLender_1 rfl ?_
  refine wl_lconst (np := 3) (v := 0) dX7_isLender_2 rfl rfl ?_
  refine wl_ldc2 (np := 6) dX7_isLender_3 rfl wk_X7_72 ?_
  refine ciS_3 (np := 9) dX7_isLender_6 rfl lk_X7_68 (Nat.le_of_ble_eq_true rfl) (by omega) (Nat.le_refl _) (Nat.le_refl _) (c_in32 _ 0 4 (by decide) (by decide)) (fun x_6 m_6 h_6 => ?_)
  obtain ⟨rfl, q_6⟩ := h_6
  have q_6 := q_6.symm
  subst q_6
  refine wi_ret dX7_isLender_9 rfl (wi_nar) (Nat.le_refl _) (Nat.le_refl _) ?_
  exact ⟨rfl, rfl⟩
set_option maxHeartbeats 4000000 in
set_option maxRecDepth 100000 in
theorem c_M_isSheet (v : Int32) (hd : 1 ≤ d) : CI d mX7_isSheet sh [.int v] me (fun x m => x = (if 0 ≤ v ∧ v ≤ 3 then 1 else 0) ∧ m = me) := by
  refine CI.mk (L := [.int v]) (by decide) (Nat.le_of_ble_eq_true rfl) rfl ?_
  refine ld_i0 (np := 1) dX7_isSheet_0 rfl ?_
  refine wl_i2l (np := 2) dX7_isSheet_1 rfl ?_
  refine wl_lconst (np := 3) (v := 0) dX7_isSheet_2 rfl rfl ?_
  refine wl_ldc2 (np := 6) dX7_isSheet_3 rfl wk_X7_95 ?_
  refine ciS_3 (np := 9) dX7_isSheet_6 rfl lk_X7_68 (Nat.le_of_ble_eq_true rfl) (by omega) (Nat.le_refl _) (Nat.le_refl _) (c_in32 _ 0 3 (by decide) (by decide)) (fun x_6 m_6 h_6 => ?_)
  obtain ⟨rfl, q_6⟩ := h_6
  have q_6 := q_6.symm
  subst q_6
  refine wi_ret dX7_isSheet_9 rfl (wi_nar) (Nat.le_refl _) (Nat.le_refl _) ?_
  exact ⟨rfl, rfl⟩
set_option maxHeartbeats 4000000 in
set_option maxRecDepth 100000 in
theorem c_M_isLane (v : Int32) (hd : 1 ≤ d) : CI d mX7_isLane sh [.int v] me (fun x m => x = (if 0 ≤ v ∧ v ≤ 2 then 1 else 0) ∧ m = me) := by
  refine CI.mk (L := [.int v]) (by decide) (Nat.le_of_ble_eq_true rfl) rfl ?_
  refine ld_i0 (np := 1) dX7_isLane_0 rfl ?_
  refine wl_i2l (np := 2) dX7_isLane_1 rfl ?_
  refine wl_lconst (np := 3) (v := 0) dX7_isLane_2 rfl rfl ?_
  refine wl_ldc2 (np := 6) dX7_isLane_3 rfl wk_X7_106 ?_
  refine ciS_3 (np := 9) dX7_isLane_6 rfl lk_X7_68 (Nat.le_of_ble_eq_true rfl) (by omega) (Nat.le_refl _) (Nat.le_refl _) (c_in32 _ 0 2 (by decide) (by decide)) (fun x_6 m_6 h_6 => ?_)
  obtain ⟨rfl, q_6⟩ := h_6
  have q_6 := q_6.symm
  subst q_6
  refine wi_ret dX7_isLane_9 rfl (wi_nar) (Nat.le_refl _) (Nat.le_refl _) ?_
  exact ⟨rfl, rfl⟩
set_option maxHeartbeats 4000000 in
set_option maxRecDepth 100000 in
theorem c_M_most (v : Int32) : CI d mX7_most sh [.int v] me (fun x m => x = minI v 999999 ∧ m = me) := by
  refine CI.mk (L := [.int v]) (by decide) (Nat.le_of_ble_eq_true rfl) rfl ?_
  refine ld_i0 (np := 1) dX7_most_0 rfl ?_
  refine wl_ldc (np := 3) dX7_most_1 rfl wk_X7_154 ?_
  refine wl_icmp_le (np := 6) (tg := 11) dX7_most_3 rfl rfl (fun c_3 => ?_) (fun c_3 => ?_)
  · refine ld_i0 (np := 12) dX7_most_11 rfl ?_
    refine wi_ret dX7_most_12 rfl (rfl) (Nat.le_refl _) (Nat.le_refl _) ?_
    exact ⟨by unfold minI; rw [if_neg (Int32.not_lt.mpr c_3)], rfl⟩
  · refine wl_ldc (np := 8) dX7_most_6 rfl wk_X7_154 ?_
    refine wl_goto (tg := 12) dX7_most_8 rfl ?_
    refine wi_ret dX7_most_12 rfl (rfl) (Nat.le_refl _) (Nat.le_refl _) ?_
    exact ⟨by unfold minI; rw [if_pos (Int32.not_le.mp c_3)], rfl⟩
end MBASE
