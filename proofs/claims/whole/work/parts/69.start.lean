/-! ===== the start ===== -/
def me0 : Mem := (fun _ _ => 0, fun _ _ => none)
def S0 : St := (([], fun _ => 0, (0, 0, 0), 0, []), none, (0, fun _ => 0), fun _ => none)
def sh1 : List Shp := shK [.inl 6] ++ shSs 4
def shF : List Shp := sh1 ++ [.inl 7] ++ shMo
def meF : Mem := lnM (mo0 (kM me0)) 4
theorem zr0 : Zr me0 0 := ⟨fun a _ => ⟨rfl, rfl⟩, fun a b c h => by cases h⟩
theorem zrK : Zr (kM me0) 136 := by
  have z1 : Zr me0 2 := zr0.up (by omega)
  have z1b : Zr (k1M me0) 36 := Zr.ref (psM_zr z1 5) (by omega) (by omega)
  have z2b : Zr (k2M me0) 71 := Zr.ref (psM_zr (z1b.up (by omega)) 5) (by omega) (by omega)
  have z3b : Zr (k3M me0) 106 := Zr.ref (psM_zr (z2b.up (by omega)) 5) (by omega) (by omega)
  have z4b : Zr (k4M me0) 112 := Zr.ref (refP_zr (z3b.up (by omega))) (by omega) (by omega)
  have z5b : Zr (k5M me0) 123 := Zr.ref (plM_zr (z4b.up (by omega))) (by omega) (by omega)
  have z6b : Zr (k6M me0) 125 := Zr.ref (Zr.ref (z5b.up (by omega)) (by omega) (by omega)) (by omega) (by omega)
  have z7b : Zr (k7M me0) 127 := Zr.ref (Zr.ref (z6b.up (by omega)) (by omega) (by omega)) (by omega) (by omega)
  have z8 : Zr (k8M me0) 128 := Zr.ref (z7b.up (by omega)) (by omega) (by omega)
  exact Zr.int (ssM_zr z8 4) (by omega)
theorem sh1_len : sh1.length = 136 := by decide +kernel
theorem shF_len : shF.length = 154 := by decide +kernel
theorem kM_1 : (kM me0).1 = fun a => if a = 0 then upd (fun _ => 0) 8 0 else fun _ => 0 := rfl
theorem kM_I (a b : Nat) : gI (kM me0) a b = 0 := by
  show (if a = 0 then upd (fun _ => (0 : Int32)) 8 0 else fun _ => 0) b = 0
  split
  · unfold upd
    split <;> rfl
  · rfl
theorem meF_I {a b : Nat} (h : a ≠ 150) : gI meF a b = 0 := by
  show gI (uI (uI (uI (uI (mo0 (kM me0)) 150 0 (-1)) 150 1 (-1)) 150 2 (-1)) 150 3 (-1)) a b = 0
  rw [gI_uI, if_neg (fun q => h q.1), gI_uI, if_neg (fun q => h q.1), gI_uI, if_neg (fun q => h q.1), gI_uI, if_neg (fun q => h q.1)]
  exact kM_I a b
theorem meF_l {k : Nat} (h : k < 4) : gI meF 150 k = -1 := by
  show gI (uI (uI (uI (uI (mo0 (kM me0)) 150 0 (-1)) 150 1 (-1)) 150 2 (-1)) 150 3 (-1)) 150 k = -1
  rw [gI_uI]
  split
  · rfl
  · rw [gI_uI]
    split
    · rfl
    · rw [gI_uI]
      split
      · rfl
      · rw [gI_uI]
        split
        · rfl
        · rename_i h1 h2 h3 h4
          omega
set_option maxRecDepth 100000 in
theorem fixM_F : FixM shF meF := by
  unfold FixM
  repeat' apply And.intro
  all_goals first | decide +kernel | rfl
set_option maxRecDepth 100000 in
theorem fixC_F : FixC shF meF := by
  unfold FixC isW isP isPl isB isT isS
  repeat' apply And.intro
  all_goals first
    | decide +kernel
    | (intro p hp
       rcases (show p = 0 ∨ p = 1 ∨ p = 2 ∨ p = 3 ∨ p = 4 by omega) with rfl | rfl | rfl | rfl | rfl <;> (repeat' apply And.intro) <;> decide +kernel)
theorem repC_F : RepC meF S0 := by
  refine ⟨⟨⟨Nat.zero_le _, fun p P hp => (by cases hp)⟩, meF_I (by decide), fun m hm => meF_I (by decide), meF_I (by decide), meF_I (by decide), meF_I (by decide), meF_I (by decide), Nat.zero_le _, meF_I (by decide), Nat.zero_le _, fun k a hk => (by cases hk)⟩, meF_I (by decide), ⟨meF_I (by decide), Nat.zero_le _, fun i hi => absurd hi (Nat.not_lt_zero _)⟩, fun k hk => meF_I (by omega)⟩
theorem repM_F : RepM meF S0 := by
  refine ⟨⟨⟨Nat.zero_le _, fun p P hp => (by cases hp)⟩, fun p P hp => (by cases hp), meF_I (by decide), fun i hi => meF_I (by decide), meF_I (by decide), meF_I (by decide), meF_I (by decide), meF_I (by decide), Nat.zero_le _, meF_I (by decide), Nat.zero_le _, fun k a hk => (by cases hk)⟩, meF_I (by decide), ⟨meF_I (by decide), Nat.zero_le _, fun i hi => absurd hi (Nat.not_lt_zero _)⟩, fun k hk => meF_l hk⟩
theorem ok_S0 : okS 0 S0 := ⟨⟨⟨fun P hP => (by cases hP), Nat.zero_le _, Nat.zero_le _⟩, fun P hP => (by cases hP)⟩, fun V hV => (by cases hV), fun i hi => absurd hi (Nat.not_lt_zero _)⟩
/-! ===== from the class to the reference and back ===== -/
section BACK
variable {sh : List Shp} {me m : Mem} {S S' : St}
theorem GoodC.toM (g : GoodC sh me m S') (hF : FixM sh me) (hR : RepM me S) : FixM sh m ∧ RepM m S := by
  obtain ⟨-, -, hk, hm⟩ := g
  have e : ∀ a, 136 ≤ a → gI m a = gI me a := fun a ha => hm a ha
  have r : ∀ b, gR m 136 b = gR me 136 b := fun b => hk 136 b (Or.inl (by decide))
  refine ⟨?_, hR.last ⟨fun b _ _ _ _ => congrFun (e 136 (by omega)) b, e 137 (by omega), fun a h1 h2 => e a (by omega), fun a h1 h2 => e a (by omega)⟩⟩
  unfold FixM at *
  simp only [r]
  exact hF
theorem FixC.of2 (h : FixC sh me) (hk : ∀ a b, a < 136 → gR m a b = gR me a b) : FixC sh m := by
  have pP : ∀ q, q < 112 → isP sh me q → isP sh m q := fun q hq hp => by
    obtain ⟨s0, s1, s2, s3, s4, s5, r0, r1, r2, r3, r4⟩ := hp
    exact ⟨s0, s1, s2, s3, s4, s5, (hk _ _ (by omega)).trans r0, (hk _ _ (by omega)).trans r1, (hk _ _ (by omega)).trans r2, (hk _ _ (by omega)).trans r3, (hk _ _ (by omega)).trans r4⟩
  have pW : ∀ w, w < 80 → isW sh me w → isW sh m w := fun w hw hp => by
    obtain ⟨a1, a2, a3, a4, a5, a6, a7, a8, a9, a10⟩ := hp
    exact ⟨a1, a2, a3, a4, a5, (hk _ _ (by omega)).trans a6, (hk _ _ (by omega)).trans a7, (hk _ _ (by omega)).trans a8, (hk _ _ (by omega)).trans a9, fun p hp5 => ⟨(hk _ _ (by omega)).trans (a10 p hp5).1, pP _ (by omega) (a10 p hp5).2⟩⟩
  obtain ⟨h0, ⟨g0, g1, g2, g3, g4, g5, g6, g7⟩, ⟨w1, w2, w3, p1, l1, b1, t1⟩, hs, hss⟩ := h
  refine ⟨h0, ⟨(hk _ _ (by omega)).trans g0, (hk _ _ (by omega)).trans g1, (hk _ _ (by omega)).trans g2, (hk _ _ (by omega)).trans g3, (hk _ _ (by omega)).trans g4, (hk _ _ (by omega)).trans g5, (hk _ _ (by omega)).trans g6, (hk _ _ (by omega)).trans g7⟩, ⟨pW _ (by omega) w1, pW _ (by omega) w2, pW _ (by omega) w3, pP _ (by omega) p1, ?_, ⟨b1.1, b1.2.1, (hk _ _ (by omega)).trans b1.2.2⟩, ⟨t1.1, t1.2.1, (hk _ _ (by omega)).trans t1.2.2⟩⟩, hs, fun k hk4 => ⟨(hk _ _ (by omega)).trans (hss k hk4).1, (hss k hk4).2.1, (hss k hk4).2.2.1, (hk _ _ (by omega)).trans (hss k hk4).2.2.2⟩⟩
  obtain ⟨p0, p1, p2, p3, p4, u0, u1, u2, u3⟩ := l1
  exact ⟨p0, p1, p2, p3, p4, (hk _ _ (by omega)).trans u0, (hk _ _ (by omega)).trans u1, (hk _ _ (by omega)).trans u2, fun i hi => (hk _ _ (by omega)).trans (u3 i hi)⟩
theorem GoodM.toC (g : GoodM sh me m S') (hF : FixC sh me) (hR : RepC me S) : FixC sh m ∧ RepC m S := by
  obtain ⟨-, -, hk, hm⟩ := g
  refine ⟨hF.of2 (fun a b ha => hk.1 a b (Or.inl (by omega))), ?_⟩
  obtain ⟨h1, h2, ⟨h3, h4, h5⟩, h6⟩ := hR
  refine ⟨h1.fr (fun a ha hb => hm a (by omega)), ?_, ⟨(congrFun (hm 125 (by omega)) 1).trans h3, h4, fun i hi => (congrFun (hm 126 (by omega)) i).trans (h5 i hi)⟩, fun k hk4 => (h6 k hk4).fr (fun a ha hb => hm a (by omega))⟩
  have e0 : gI m 0 8 = gI me 0 8 := congrFun (hm 0 (by omega)) 8
  cases hI : S.2.1 with
  | none => rw [hI] at h2; exact e0.trans h2
  | some V => rw [hI] at h2; exact ⟨e0.trans h2.1, h2.2.fr (fun a ha hb => hm a (by omega))⟩
/-- what holds at the law's loop, behind k calls -/
def InvL (sh : List Shp) (me : Mem) (S : St) (k : Nat) : Prop := FixC sh me ∧ FixM sh me ∧ RepC me S ∧ RepM me S ∧ okS k S ∧ sh.length ≤ 999999
theorem inv_next {m2 : Mem} {k : Nat} (hI : InvL sh me S k) (g1 : GoodC sh me m S') (g2 : GoodM sh m m2 S') (hok : okS (k + 1) S') : InvL sh m2 S' (k + 1) := by
  obtain ⟨hC, hR⟩ := g2.toC g1.2.1 g1.1
  exact ⟨hC, g2.2.1, hR, g2.1, hok, hI.2.2.2.2.2⟩
end BACK
