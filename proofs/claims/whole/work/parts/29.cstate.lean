/-! ===== all that the class holds ===== -/
/-- the world, the image, the tape, the sheets -/
abbrev St : Type := Wld × Option Wld × (Nat × (Nat → Int32)) × (Nat → Sht)
noncomputable def cif {α : Type} (P : Prop) (a b : α) : α := @ite α P (Classical.propDecidable P) a b
theorem cif_t {α : Type} {P : Prop} {a b : α} (h : P) : cif P a b = a := if_pos h
theorem cif_f {α : Type} {P : Prop} {a b : α} (h : ¬ P) : cif P a b = b := if_neg h
abbrev inR (v a b : Int32) : Prop := a ≤ v ∧ v ≤ b
def getP (ps : List Prs) (p : Int32) : Prs := (ps[p.toNatClampNeg]?).getD ((0, 0, 0, 0), [], fun _ => 0)
theorem getP_nI {ps : List Prs} {k : Nat} {P : Prs} (h : ps[k]? = some P) (hk : k < 2 ^ 31) : getP ps (nI k) = P := by
  unfold getP
  rw [nI_clamp hk, h]
  rfl
/-- where the class's things lie; all references but whose plan is made -/
def FixC (sh : List Shp) (me : Mem) : Prop := sh[0]? = some (.inl 6) ∧ (gR me 0 0 = some 1 ∧ gR me 0 1 = some 36 ∧ gR me 0 2 = some 71 ∧ gR me 0 3 = some 106 ∧ gR me 0 4 = some 112 ∧ gR me 0 5 = some 123 ∧ gR me 0 6 = some 125 ∧ gR me 0 7 = some 127) ∧
  (isW sh me 1 ∧ isW sh me 36 ∧ isW sh me 71 ∧ isP sh me 106 ∧ isPl sh me 112 ∧ isB sh me 123 ∧ isT sh me 125) ∧ sh[127]? = some (.inr (2, 4)) ∧ ∀ k, k < 4 → gR me 127 k = some (128 + 2 * k) ∧ isS sh me (128 + 2 * k)
def RfK (me m : Mem) : Prop := ∀ a b, (a ≠ 112 ∨ b ≠ 3) → gR m a b = gR me a b
theorem RfK.of {me m : Mem} (h : m.2 = me.2) : RfK me m := fun a b _ => by unfold gR; rw [h]
theorem RfK.tr {me m m' : Mem} (h : RfK me m) (h' : RfK m m') : RfK me m' := fun a b hab => (h' a b hab).trans (h a b hab)
theorem FixC.of {sh : List Shp} {me m : Mem} (h : FixC sh me) (hk : RfK me m) : FixC sh m := by
  have pP : ∀ q, q ≠ 112 → isP sh me q → isP sh m q := fun q hq hp => by
    obtain ⟨s0, s1, s2, s3, s4, s5, r0, r1, r2, r3, r4⟩ := hp
    exact ⟨s0, s1, s2, s3, s4, s5, (hk _ _ (Or.inl hq)).trans r0, (hk _ _ (Or.inl hq)).trans r1, (hk _ _ (Or.inl hq)).trans r2, (hk _ _ (Or.inl hq)).trans r3, (hk _ _ (Or.inl hq)).trans r4⟩
  have pW : ∀ w, w < 80 → isW sh me w → isW sh m w := fun w hw hp => by
    obtain ⟨a1, a2, a3, a4, a5, a6, a7, a8, a9, a10⟩ := hp
    exact ⟨a1, a2, a3, a4, a5, (hk _ _ (by omega)).trans a6, (hk _ _ (by omega)).trans a7, (hk _ _ (by omega)).trans a8, (hk _ _ (by omega)).trans a9, fun p hp5 => ⟨(hk _ _ (by omega)).trans (a10 p hp5).1, pP _ (by omega) (a10 p hp5).2⟩⟩
  obtain ⟨h0, ⟨g0, g1, g2, g3, g4, g5, g6, g7⟩, ⟨w1, w2, w3, p1, l1, b1, t1⟩, hs, hss⟩ := h
  refine ⟨h0, ⟨(hk _ _ (by omega)).trans g0, (hk _ _ (by omega)).trans g1, (hk _ _ (by omega)).trans g2, (hk _ _ (by omega)).trans g3, (hk _ _ (by omega)).trans g4, (hk _ _ (by omega)).trans g5, (hk _ _ (by omega)).trans g6, (hk _ _ (by omega)).trans g7⟩, ⟨pW _ (by omega) w1, pW _ (by omega) w2, pW _ (by omega) w3, pP _ (by omega) p1, ?_, ⟨b1.1, b1.2.1, (hk _ _ (by omega)).trans b1.2.2⟩, ⟨t1.1, t1.2.1, (hk _ _ (by omega)).trans t1.2.2⟩⟩, hs, fun k hk4 => ⟨(hk _ _ (by omega)).trans (hss k hk4).1, (hss k hk4).2.1, (hss k hk4).2.2.1, (hk _ _ (by omega)).trans (hss k hk4).2.2.2⟩⟩
  obtain ⟨p0, p1, p2, p3, p4, u0, u1, u2, u3⟩ := l1
  exact ⟨p0, p1, p2, p3, p4, (hk _ _ (by omega)).trans u0, (hk _ _ (by omega)).trans u1, (hk _ _ (by omega)).trans u2, fun i hi => (hk _ _ (by omega)).trans (u3 i hi)⟩
def RepC (me : Mem) (S : St) : Prop := RepW me 1 S.1 ∧ (match S.2.1 with | none => gI me 0 8 = 0 | some V => gI me 0 8 = 1 ∧ RepW me 36 V) ∧ (gI me 125 1 = nI S.2.2.1.1 ∧ S.2.2.1.1 ≤ 80 ∧ ∀ i, i < S.2.2.1.1 → gI me 126 i = S.2.2.1.2 i) ∧ ∀ k, k < 4 → RepS me (128 + 2 * k) (S.2.2.2 k)
/-- behind a call: what is, where it lies, and what isn't the class's as it was -/
def GoodC (sh : List Shp) (me m : Mem) (S : St) : Prop := RepC m S ∧ FixC sh m ∧ RfK me m ∧ ∀ a, 136 ≤ a → m.1 a = me.1 a
theorem RepS.fr {me m : Mem} {s : Nat} {S : Sht} (h : RepS me s S) (hf : ∀ a, s ≤ a → a < s + 2 → m.1 a = me.1 a) : RepS m s S := by
  have e0 : ∀ b, gI m s b = gI me s b := fun b => congrFun (hf s (by omega) (by omega)) b
  have e1 : ∀ b, gI m (s + 1) b = gI me (s + 1) b := fun b => congrFun (hf (s + 1) (by omega) (by omega)) b
  match S, h with
  | none, h => exact (e0 1).trans h
  | some (l, n, f), h =>
    obtain ⟨h1, h2, h3, h4, h5⟩ := h
    exact ⟨(e0 1).trans h1, (e0 2).trans h2, (e0 3).trans h3, h4, fun i hi => (e1 i).trans (h5 i hi)⟩
/-- only the world's own cells, or those of no lasting meaning, have changed -/
theorem GoodC.w {sh : List Shp} {me m : Mem} {S : St} {W' : Wld} (hF : FixC sh me) (hR : RepC me S) (hk : RfK me m) (hm : ∀ a, ¬ (1 ≤ a ∧ a < 36) → ¬ (71 ≤ a ∧ a < 125) → m.1 a = me.1 a) (hW : RepW m 1 W') : GoodC sh me m (W', S.2) := by
  obtain ⟨h1, h2, ⟨h3, h4, h5⟩, h6⟩ := hR
  refine ⟨⟨hW, ?_, ⟨(congrFun (hm 125 (by omega) (by omega)) 1).trans h3, h4, fun i hi => (congrFun (hm 126 (by omega) (by omega)) i).trans (h5 i hi)⟩, fun k hk4 => (h6 k hk4).fr (fun a ha hb => hm a (by omega) (by omega))⟩, hF.of hk, hk, fun a ha => hm a (by omega) (by omega)⟩
  have e0 : gI m 0 8 = gI me 0 8 := congrFun (hm 0 (by omega) (by omega)) 8
  dsimp only
  cases hI : S.2.1 with
  | none => rw [hI] at h2; exact e0.trans h2
  | some V => rw [hI] at h2; exact ⟨e0.trans h2.1, h2.2.fr (fun a ha hb => hm a (by omega) (by omega))⟩
theorem GoodC.same {sh : List Shp} {me : Mem} {S : St} (hF : FixC sh me) (hR : RepC me S) : GoodC sh me me S := ⟨hR, hF, RfK.of rfl, fun _ _ => rfl⟩
/-! ===== what each call answers, and what is then ===== -/
def setPs (S : St) (ps : List Prs) : St := ((ps, S.1.2), S.2)
noncomputable def sp_person (S : St) (pu inc str : Int32) : Int32 × St := cif (inR pu 0 9999 ∧ inR inc 0 99 ∧ inR str 1 60) (if 5 ≤ S.1.1.length then (-3, S) else (nI S.1.1.length, setPs S (S.1.1 ++ [((pu, inc, str, -4), [], fun _ => 0)]))) (-1, S)
def ofS (P : Prs) (w : Int32) : Int32 := if w = 0 then P.1.1 else if w = 1 then P.1.2.1 else if w = 2 then P.1.2.2.1 else if w = 3 then nI P.2.1.length else if w = 4 then thickOf P else if w = 5 then minI (sumL (P.2.1.map (fun co => co.2.1))) 9999999 else if w = 6 then P.1.2.2.2 else -1
noncomputable def sp_of (S : St) (p w : Int32) : Int32 × St := cif (isPn S.1.1 p) (ofS (getP S.1.1 p) w, S) (-1, S)
def coS (co : Coat) (w : Int32) : Int32 := if w = 0 then co.1 else if w = 1 then co.2.1 else if w = 2 then co.2.2.1 else if w = 3 then co.2.2.2 else -1
def getC (P : Prs) (c : Int32) : Coat := (P.2.1[c.toNatClampNeg]?).getD (0, 0, 0, 0)
noncomputable def sp_coat (S : St) (p c w : Int32) : Int32 × St := cif (isCt S.1.1 p c) (coS (getC (getP S.1.1 p) c) w, S) (-1, S)
def taxP (P : Prs) (l : Nat) (v : Int32) : Prs := (P.1, P.2.1, fun j => if j = l then v else P.2.2 j)
noncomputable def sp_tax (S : St) (p l v : Int32) : Int32 × St := cif (isPn S.1.1 p ∧ inR l 0 4 ∧ inR v 0 9) ((getP S.1.1 p).2.2 l.toNatClampNeg, setPs S (S.1.1.set p.toNatClampNeg (taxP (getP S.1.1 p) l.toNatClampNeg v))) (-1, S)
noncomputable def sp_heat (S : St) (mo v : Int32) : Int32 × St := cif (inR mo 0 11 ∧ inR v 0 40) (S.1.2.1 mo.toNatClampNeg, ((S.1.1, (fun j => if j = mo.toNatClampNeg then v else S.1.2.1 j), S.1.2.2), S.2)) (-1, S)
noncomputable def sp_rule (S : St) (w v : Int32) : Int32 × St := cif (w = 0 ∧ inR v 0 2) (S.1.2.2.1.1, ((S.1.1, S.1.2.1, (v, S.1.2.2.1.2), S.1.2.2.2), S.2)) (cif (w = 1 ∧ inR v 0 9) (S.1.2.2.1.2.1, ((S.1.1, S.1.2.1, (S.1.2.2.1.1, v, S.1.2.2.1.2.2), S.1.2.2.2), S.2)) (-1, S))
noncomputable def sp_type (S : St) (w : Int64) (n : Int32) : Int32 × St := cif (inR n 1 8 ∧ prnt w n.toNatClampNeg) (if 80 < S.2.2.1.1 + n.toNatClampNeg then (-3, S) else (nI (S.2.2.1.1 + n.toNatClampNeg), (S.1, S.2.1, (S.2.2.1.1 + n.toNatClampNeg, fun i => if i < S.2.2.1.1 then S.2.2.1.2 i else btI w (nI (n.toNatClampNeg - 1 - (i - S.2.2.1.1)))), S.2.2.2))) (-1, S)
noncomputable def sp_coats (S : St) (p : Int32) : Int32 × St := cif (isPn S.1.1 p) (match rdS S.2.2.1.2 S.2.2.1.1 6 0 [] with
  | .inl k => (-20 - nI k, (S.1, S.2.1, (0, S.2.2.1.2), S.2.2.2))
  | .inr l => (nI l.length, ((S.1.1.set p.toNatClampNeg ((getP S.1.1 p).1, l, (getP S.1.1 p).2.2), S.1.2), S.2.1, (0, S.2.2.1.2), S.2.2.2))) (-1, S)
def fellS (ps : List Prs) : Int32 := fellF (fun p => ((ps[p]?).getD ((0, 0, 0, 0), [], fun _ => 0)).1.2.2.2) ps.length
def cntS (W : Wld) (w : Int32) : Int32 := if w = 0 then nI W.1.length else if w = 1 then nI W.2.2.2.1 else if w = 2 then sumL (W.1.map (fun P => nI P.2.1.length)) else if w = 3 then fellS W.1 else if w = 4 then W.2.2.1.2.2 else if w = 5 then nI W.2.2.2.2.length else -1
def sp_count (S : St) (w : Int32) : Int32 × St := (cntS S.1 w, S)
noncomputable def sp_take (S : St) (p l a r t : Int32) : Int32 × St := cif (isPn S.1.1 p ∧ inR l 0 4 ∧ inR a 1 9999 ∧ inR r 0 20 ∧ inR t 1 9) (if 8 ≤ (getP S.1.1 p).2.1.length then (-3, S) else (nI ((getP S.1.1 p).2.1.length + 1), setPs S (S.1.1.set p.toNatClampNeg ((minI ((getP S.1.1 p).1.1 + a) 999999, (getP S.1.1 p).1.2), (getP S.1.1 p).2.1 ++ [(l, a, r, t)], (getP S.1.1 p).2.2)))) (-1, S)
noncomputable def sp_pay (S : St) (p c : Int32) : Int32 × St := cif (isCt S.1.1 p c) (cif (mayC S.1.2.2.1.1 (wsI (getP S.1.1 p).2.1.length) c) (cif ((getP S.1.1 p).1.1 < (getC (getP S.1.1 p) c).2.1) (-4, S) (nI ((getP S.1.1 p).2.1.length - 1), setPs S (S.1.1.set p.toNatClampNeg (payP (getP S.1.1 p) c.toNatClampNeg)))) (-2, S)) (-1, S)
noncomputable def sp_nights (S : St) (n : Int32) : Int32 × St := cif (inR n 1 60) (if 359 < S.1.2.2.2.1 + n.toNatClampNeg then (-3, S) else (nI (S.1.2.2.2.1 + n.toNatClampNeg), (nightsW n.toNatClampNeg S.1, S.2))) (-1, S)
noncomputable def sp_cut (S : St) (p c : Int32) : Int32 × St := cif (isCt S.1.1 p c) (cif (0 < c ∧ c < nI (getP S.1.1 p).2.1.length - 1) (cif (S.1.2.2.1.2.2 < S.1.2.2.1.2.1) (nI ((getP S.1.1 p).2.1.length - 1), ((S.1.1.set p.toNatClampNeg (takeP (getP S.1.1 p) c.toNatClampNeg), S.1.2.1, (S.1.2.2.1.1, S.1.2.2.1.2.1, S.1.2.2.1.2.2 + 1), S.1.2.2.2), S.2)) (-4, S)) (-2, S)) (-1, S)
