/-! ===== contracts weakened ===== -/
theorem CallsG.mono {d mc ms : Nat} {M : MR} {sh : List Shp} {vs : List Value} {me : Mem} {Q Q' : Post} (h : CallsG d mc ms M sh vs me Q) (hq : ∀ r s m, Q r s m → Q' r s m) : CallsG d mc ms M sh vs me Q' := by
  intro l D cA adr sz p e ha hc hk s m args below hf happ hP hK
  obtain ⟨n, o, h1, h2, h3, ⟨⟨⟨r, sh', me', adr', hv, hqq, hrest⟩, hF⟩, hL⟩⟩ := h l D cA adr sz p e ha hc hk s m args below hf happ hP hK
  exact ⟨n, o, h1, h2, h3, ⟨⟨⟨r, sh', me', adr', hv, hq _ _ _ hqq, hrest⟩, hF⟩, hL⟩⟩
theorem CI.mono {d : Nat} {M : MR} {sh : List Shp} {vs : List Value} {me : Mem} {Q Q' : Int32 → Mem → Prop} (h : CI d M sh vs me Q) (hq : ∀ x m, Q x m → Q' x m) : CI d M sh vs me Q' := CallsG.mono h (fun r s m ⟨x, h1, h2, h3⟩ => ⟨x, h1, h2, hq _ _ h3⟩)
theorem CV.mono {d : Nat} {M : MR} {sh : List Shp} {vs : List Value} {me : Mem} {Q Q' : Mem → Prop} (h : CV d M sh vs me Q) (hq : ∀ m, Q m → Q' m) : CV d M sh vs me Q' := CallsG.mono h (fun r s m ⟨h1, h2, h3⟩ => ⟨h1, h2, hq _ h3⟩)
/-! ===== what is: people, coats, the world ===== -/
/-- a coat: lender, amount, rate, thick -/
abbrev Coat : Type := Int32 × Int32 × Int32 × Int32
/-- one of the people: (purse, income, strength, the day he fell first or -4), coats, taxes by lender -/
abbrev Prs : Type := (Int32 × Int32 × Int32 × Int32) × List Coat × (Nat → Int32)
/-- the world: people, heats, (off, cuts allowed, cuts made), day, wares -/
abbrev Wld : Type := List Prs × (Nat → Int32) × (Int32 × Int32 × Int32) × Nat × List (Int32 × Int32)
def sumL (l : List Int32) : Int32 := l.foldl (fun s x => s + x) 0
theorem foldl_sum (l : List Int32) (s : Int32) : l.foldl (fun s x => s + x) s = s + sumL l := by
  unfold sumL
  induction l generalizing s with
  | nil => simp
  | cons a t ih => simp only [List.foldl_cons]; rw [ih (s + a), ih (0 + a), Int32.zero_add, Int32.add_assoc]
theorem sumF_eq {α : Type} (f : Nat → Int32) (l : List α) (g : α → Int32) (h : ∀ c co, l[c]? = some co → f c = g co) : sumF f l.length = sumL (l.map g) := by
  have key : ∀ k, k ≤ l.length → sumF f k = sumL ((l.take k).map g) := by
    intro k
    induction k with
    | zero => intro _; rfl
    | succ k ih =>
      intro hk
      have hlt : k < l.length := by omega
      show sumF f k + f k = _
      rw [ih (by omega), h k _ (List.getElem?_eq_getElem hlt), List.take_succ, List.getElem?_eq_getElem hlt, List.map_append]
      unfold sumL
      rw [List.foldl_append]
      simp
  rw [key l.length (Nat.le_refl _), List.take_length]
def cLen (P : Prs) : Nat := P.2.1.length
def taxOf (P : Prs) : Int32 := sumL (P.2.1.map (fun co => P.2.2 co.1.toNatClampNeg))
def thickOf (P : Prs) : Int32 := sumL (P.2.1.map (fun co => co.2.2.2))
def growC (co : Coat) : Coat := (co.1, growI co.2.1 co.2.2.1, co.2.2.1, co.2.2.2)
/-- a night but for the heat -/
def restP (P : Prs) : Prs := ((purseI P.1.1 P.1.2.1 (taxOf P), P.1.2.1, P.1.2.2.1, P.1.2.2.2), P.2.1.map growC, P.2.2)
def hotS (P : Prs) (heat : Int32) : Prop := maxI (P.1.2.2.1 - heat) 0 < thickOf P
def fallP (P : Prs) (day : Int32) : Prs := ((0, P.1.2.1, P.1.2.2.1, if P.1.2.2.2 = -4 then day else P.1.2.2.2), P.2.1, P.2.2)
def nightP (P : Prs) (heat day : Int32) : Prs := if maxI ((restP P).1.2.2.1 - heat) 0 < thickOf (restP P) then fallP (restP P) day else restP P
def takeP (P : Prs) (c : Nat) : Prs := (P.1, P.2.1.eraseIdx c, P.2.2)
def putP (P : Prs) (co : Coat) : Prs := (P.1, P.2.1 ++ [co], P.2.2)
def payP (P : Prs) (c : Nat) : Prs := ((P.1.1 - ((P.2.1[c]?).getD (0, 0, 0, 0)).2.1, P.1.2.1, P.1.2.2.1, P.1.2.2.2), P.2.1.eraseIdx c, P.2.2)
/-- the person at q is P -/
def RepP (me : Mem) (q : Nat) (P : Prs) : Prop := gI me q 6 = P.1.1 ∧ gI me q 7 = P.1.2.1 ∧ gI me q 8 = P.1.2.2.1 ∧ gI me q 9 = P.1.2.2.2 ∧ gI me q 5 = nI P.2.1.length ∧ P.2.1.length ≤ 8 ∧
  (∀ c co, P.2.1[c]? = some co → gI me (q + 1) c = co.1 ∧ gI me (q + 2) c = co.2.1 ∧ gI me (q + 3) c = co.2.2.1 ∧ gI me (q + 4) c = co.2.2.2) ∧ (∀ l, l < 5 → gI me (q + 5) l = P.2.2 l)
/-- nothing but the cells lo .. hi - 1 has changed, no reference -/
def Onl (me m : Mem) (lo hi : Nat) : Prop := m.2 = me.2 ∧ ∀ a, ¬ (lo ≤ a ∧ a < hi) → m.1 a = me.1 a
theorem Onl.rf {me : Mem} {lo hi : Nat} : Onl me me lo hi := ⟨rfl, fun _ _ => rfl⟩
theorem Onl.tr {me m m' : Mem} {lo hi : Nat} (h : Onl me m lo hi) (h' : Onl m m' lo hi) : Onl me m' lo hi := ⟨h'.1.trans h.1, fun a ha => (h'.2 a ha).trans (h.2 a ha)⟩
theorem Onl.wd {me m : Mem} {lo hi lo' hi' : Nat} (h : Onl me m lo hi) (h1 : lo' ≤ lo) (h2 : hi ≤ hi') : Onl me m lo' hi' := ⟨h.1, fun a ha => h.2 a (fun q => ha ⟨by omega, by omega⟩)⟩
theorem Onl.g {me m : Mem} {lo hi a b : Nat} (h : Onl me m lo hi) (ha : ¬ (lo ≤ a ∧ a < hi)) : gI m a b = gI me a b := congrFun (h.2 a ha) b
theorem RepP.fr {me m : Mem} {q : Nat} {P : Prs} (h : RepP me q P) (hf : ∀ a, q ≤ a → a < q + 6 → m.1 a = me.1 a) : RepP m q P := by
  have e : ∀ k b, k < 6 → gI m (q + k) b = gI me (q + k) b := fun k b hk => congrFun (hf (q + k) (by omega) (by omega)) b
  obtain ⟨h1, h2, h3, h4, h5, h6, h7, h8⟩ := h
  refine ⟨(e 0 6 (by omega)).trans h1, (e 0 7 (by omega)).trans h2, (e 0 8 (by omega)).trans h3, (e 0 9 (by omega)).trans h4, (e 0 5 (by omega)).trans h5, h6, fun c co hc => ?_, fun l hl => (e 5 l (by omega)).trans (h8 l hl)⟩
  obtain ⟨g1, g2, g3, g4⟩ := h7 c co hc
  exact ⟨(e 1 c (by omega)).trans g1, (e 2 c (by omega)).trans g2, (e 3 c (by omega)).trans g3, (e 4 c (by omega)).trans g4⟩
theorem RepP.lt {me : Mem} {q : Nat} {P : Prs} (h : RepP me q P) {c : Nat} (hc : c < P.2.1.length) : ∃ co, P.2.1[c]? = some co := ⟨_, List.getElem?_eq_getElem hc⟩
/-! the methods' changes, in these words -/
theorem rep_begin (me : Mem) (q : Nat) (p i s : Int32) : RepP (beginM me q p i s) q ((p, i, s, -4), [], fun _ => 0) := by
  refine ⟨?_, ?_, ?_, ?_, ?_, Nat.zero_le _, fun c co hc => by simp at hc, fun l hl => ?_⟩
  · simp [beginM, g_def]
  · simp [beginM, g_def]
  · simp [beginM, g_def]
  · simp [beginM, g_def]
  · simp [beginM, g_def]; rfl
  · simp [beginM, g_def]; intro h; omega
theorem onl_begin (me : Mem) (q : Nat) (p i s : Int32) : Onl me (beginM me q p i s) q (q + 6) := by
  refine ⟨rfl, fun a ha => funext fun b => ?_⟩
  simp only [beginM]
  grind
theorem rep_put {me : Mem} {q : Nat} {P : Prs} (h : RepP me q P) (hn : P.2.1.length < 8) (l a r t : Int32) : RepP (putM me q P.2.1.length l a r t) q (putP P (l, a, r, t)) := by
  obtain ⟨h1, h2, h3, h4, h5, h6, h7, h8⟩ := h
  have g0 : ∀ x, x ≠ 5 → gI (putM me q P.2.1.length l a r t) q x = gI me q x := fun x hx => by
    simp only [putM, gI_uI]; grind
  refine ⟨(g0 6 (by omega)).trans h1, (g0 7 (by omega)).trans h2, (g0 8 (by omega)).trans h3, (g0 9 (by omega)).trans h4, ?_, ?_, fun c co hc => ?_, fun j hj => ?_⟩
  · simp only [putM, gI_uI, putP, List.length_append, List.length_cons, List.length_nil]; simp
  · simp only [putP, List.length_append, List.length_cons, List.length_nil]; omega
  · simp only [putP] at hc
    by_cases hlt : c < P.2.1.length
    · rw [List.getElem?_append_left hlt] at hc
      obtain ⟨g1, g2, g3, g4⟩ := h7 c co hc
      refine ⟨?_, ?_, ?_, ?_⟩ <;> simp only [putM, gI_uI] <;> grind
    · rw [List.getElem?_append_right (by omega)] at hc
      have hz : c - P.2.1.length < 1 := (List.getElem?_eq_some_iff.mp hc).1
      have hce : c = P.2.1.length := by omega
      subst hce
      rw [Nat.sub_self] at hc
      cases hc
      refine ⟨?_, ?_, ?_, ?_⟩ <;> simp only [putM, gI_uI] <;> grind
  · have e : gI (putM me q P.2.1.length l a r t) (q + 5) j = gI me (q + 5) j := by simp only [putM, gI_uI]; grind
    exact e.trans (h8 j hj)
theorem onl_put (me : Mem) (q n : Nat) (l a r t : Int32) : Onl me (putM me q n l a r t) q (q + 6) := by
  refine ⟨rfl, fun x hx => funext fun b => ?_⟩
  show gI (putM me q n l a r t) x b = gI me x b
  simp only [putM, gI_uI]
  grind
theorem onl_take (me : Mem) (q c n : Nat) : Onl me (takeM me q c n) q (q + 6) := by
  refine ⟨rfl, fun x hx => funext fun b => ?_⟩
  show gI (takeM me q c n) x b = gI me x b
  simp only [takeM, gI_uI, shfM, g_def, g_raw]
  grind
theorem rep_take {me : Mem} {q c : Nat} {P : Prs} (h : RepP me q P) (hc : c < P.2.1.length) : RepP (takeM me q c P.2.1.length) q (takeP P c) := by
  obtain ⟨h1, h2, h3, h4, h5, h6, h7, h8⟩ := h
  have g0 : ∀ x, x ≠ 5 → gI (takeM me q c P.2.1.length) q x = gI me q x := fun x hx => by
    simp only [takeM, gI_uI, shfM, g_def, g_raw]; grind
  have hlen : (P.2.1.eraseIdx c).length = P.2.1.length - 1 := by rw [List.length_eraseIdx]; simp [hc]
  refine ⟨(g0 6 (by omega)).trans h1, (g0 7 (by omega)).trans h2, (g0 8 (by omega)).trans h3, (g0 9 (by omega)).trans h4, ?_, ?_, fun k co hk => ?_, fun j hj => ?_⟩
  · simp only [takeM, gI_uI, takeP, hlen]; simp
  · simp only [takeP, hlen]; omega
  · simp only [takeP] at hk
    rw [List.getElem?_eraseIdx] at hk
    have hkl : k < P.2.1.length - 1 := by
      by_cases hkc : k < c
      · omega
      · rw [if_neg hkc] at hk
        have := (List.getElem?_eq_some_iff.mp hk).1
        omega
    by_cases hkc : k < c
    · rw [if_pos hkc] at hk
      obtain ⟨g1, g2, g3, g4⟩ := h7 k co hk
      refine ⟨?_, ?_, ?_, ?_⟩ <;> simp only [takeM, gI_uI, shfM, g_def, g_raw] <;> grind
    · rw [if_neg hkc] at hk
      obtain ⟨g1, g2, g3, g4⟩ := h7 (k + 1) co hk
      refine ⟨?_, ?_, ?_, ?_⟩ <;> simp only [takeM, gI_uI, shfM, g_def, g_raw] <;> grind
  · have e : gI (takeM me q c P.2.1.length) (q + 5) j = gI me (q + 5) j := by simp only [takeM, gI_uI, shfM, g_def, g_raw]; grind
    exact e.trans (h8 j hj)
theorem rep_pay {me : Mem} {q c : Nat} {P : Prs} (h : RepP me q P) (hc : c < P.2.1.length) : RepP (payM me q c P.2.1.length) q (payP P c) := by
  obtain ⟨co, hco⟩ := h.lt hc
  have ha : gI me (q + 2) c = co.2.1 := (h.2.2.2.2.2.2.1 c co hco).2.1
  have h' : RepP (uI me q 6 (gI me q 6 - gI me (q + 2) c)) q ((P.1.1 - co.2.1, P.1.2.1, P.1.2.2.1, P.1.2.2.2), P.2.1, P.2.2) := by
    obtain ⟨h1, h2, h3, h4, h5, h6, h7, h8⟩ := h
    refine ⟨?_, ?_, ?_, ?_, ?_, h6, fun k co' hk => ?_, fun j hj => ?_⟩
    · rw [gI_uI, if_pos (by refine ⟨?_, ?_⟩ <;> first | trivial | rfl | assumption | omega), h1, ha]
    · rw [gI_uI, if_neg (by omega)]; exact h2
    · rw [gI_uI, if_neg (by omega)]; exact h3
    · rw [gI_uI, if_neg (by omega)]; exact h4
    · rw [gI_uI, if_neg (by omega)]; exact h5
    · obtain ⟨g1, g2, g3, g4⟩ := h7 k co' hk
      exact ⟨by rw [gI_uI, if_neg (by omega)]; exact g1, by rw [gI_uI, if_neg (by omega)]; exact g2, by rw [gI_uI, if_neg (by omega)]; exact g3, by rw [gI_uI, if_neg (by omega)]; exact g4⟩
    · rw [gI_uI, if_neg (by omega)]; exact h8 j hj
  have h'' := rep_take h' hc
  have e : payP P c = takeP ((P.1.1 - co.2.1, P.1.2.1, P.1.2.2.1, P.1.2.2.2), P.2.1, P.2.2) c := by
    unfold payP takeP
    rw [hco]
    rfl
  rw [e]
  exact h''
theorem onl_pay (me : Mem) (q c n : Nat) : Onl me (payM me q c n) q (q + 6) := by
  refine Onl.tr (m := uI me q 6 (gI me q 6 - gI me (q + 2) c)) ⟨rfl, fun x hx => funext fun b => ?_⟩ (onl_take _ q c n)
  show gI (uI me q 6 (gI me q 6 - gI me (q + 2) c)) x b = gI me x b
  rw [gI_uI, if_neg (by omega)]
theorem rep_night {me : Mem} {q : Nat} {P : Prs} (h : RepP me q P) (hT0 : ∀ co ∈ P.2.1, ∃ l, l < 5 ∧ co.1 = nI l) : RepP (nightM me q P.2.1.length) q (restP P) := by
  obtain ⟨h1, h2, h3, h4, h5, h6, h7, h8⟩ := h
  have et : sumF (taxF me q) P.2.1.length = sumL (P.2.1.map (fun co => gI me (q + 5) co.1.toNatClampNeg)) := by
    refine sumF_eq _ _ _ (fun c co hc => ?_)
    unfold taxF
    rw [(h7 c co hc).1]
  have hT : ∀ co ∈ P.2.1, gI me (q + 5) co.1.toNatClampNeg = P.2.2 co.1.toNatClampNeg := fun co hco => by
    obtain ⟨l, hl, e⟩ := hT0 co hco
    rw [e, nI_clamp (by omega)]
    exact h8 l hl
  have g0 : ∀ a b, a ≠ q + 2 → (a ≠ q ∨ b ≠ 6) → gI (nightM me q P.2.1.length) a b = gI me a b := fun a b h1 h2 => by
    simp only [nightM, gI_uI, growM, g_def, g_raw]
    rw [if_neg (by omega), if_neg (by omega)]
  refine ⟨?_, (g0 _ _ (by omega) (by omega)).trans h2, (g0 _ _ (by omega) (by omega)).trans h3, (g0 _ _ (by omega) (by omega)).trans h4, ?_, by simpa [restP] using h6, fun k co' hk => ?_, fun j hj => (g0 _ _ (by omega) (by omega)).trans (h8 j hj)⟩
  · simp only [nightM, gI_uI]
    rw [if_pos (by refine ⟨?_, ?_⟩ <;> first | trivial | rfl | assumption | omega), h1, h2, et]
    unfold restP taxOf
    congr 2
    apply List.map_congr_left
    intro co hco
    obtain ⟨c, hcc⟩ := List.getElem?_of_mem hco
    exact hT co hco
  · rw [g0 _ _ (by omega) (by omega), h5]
    simp [restP]
  · simp only [restP, List.getElem?_map] at hk
    cases hc : P.2.1[k]? with
    | none => rw [hc] at hk; cases hk
    | some co =>
      rw [hc] at hk
      cases hk
      have hlt : k < P.2.1.length := (List.getElem?_eq_some_iff.mp hc).1
      obtain ⟨g1, g2, g3, g4⟩ := h7 k co hc
      refine ⟨(g0 _ _ (by omega) (by omega)).trans g1, ?_, (g0 _ _ (by omega) (by omega)).trans g3, (g0 _ _ (by omega) (by omega)).trans g4⟩
      simp only [nightM, gI_uI, growM, g_def, g_raw]
      rw [if_neg (by omega), if_pos (by refine ⟨?_, ?_⟩ <;> first | trivial | rfl | assumption | omega), g2, g3]
      rfl
theorem onl_night (me : Mem) (q n : Nat) : Onl me (nightM me q n) q (q + 6) := by
  refine ⟨rfl, fun x hx => funext fun b => ?_⟩
  show gI (nightM me q n) x b = gI me x b
  simp only [nightM, gI_uI, growM, g_def, g_raw]
  grind
theorem rep_fall {me : Mem} {q : Nat} {P : Prs} (h : RepP me q P) (day : Int32) : RepP (fallM me q day) q (fallP P day) := by
  obtain ⟨h1, h2, h3, h4, h5, h6, h7, h8⟩ := h
  have e : ∀ a b, (a ≠ q ∨ (b ≠ 6 ∧ b ≠ 9)) → gI (fallM me q day) a b = gI me a b := fun a b hab => by
    unfold fallM
    split
    · rw [gI_uI, if_neg (by omega), gI_uI, if_neg (by omega)]
    · rw [gI_uI, if_neg (by omega)]
  refine ⟨?_, (e _ _ (by omega)).trans h2, (e _ _ (by omega)).trans h3, ?_, (e _ _ (by omega)).trans h5, h6, fun k co' hk => ?_, fun j hj => (e _ _ (by omega)).trans (h8 j hj)⟩
  · unfold fallM
    split
    · rw [gI_uI, if_neg (by omega), gI_uI, if_pos (by refine ⟨?_, ?_⟩ <;> first | trivial | rfl | assumption | omega)]; rfl
    · rw [gI_uI, if_pos (by refine ⟨?_, ?_⟩ <;> first | trivial | rfl | assumption | omega)]; rfl
  · unfold fallM fallP
    rw [h4]
    dsimp only
    split
    · rw [gI_uI, if_pos (by refine ⟨?_, ?_⟩ <;> first | trivial | rfl | assumption | omega)]
    · rw [gI_uI, if_neg (by omega)]; exact h4
  · obtain ⟨g1, g2, g3, g4⟩ := h7 k co' hk
    exact ⟨(e _ _ (by omega)).trans g1, (e _ _ (by omega)).trans g2, (e _ _ (by omega)).trans g3, (e _ _ (by omega)).trans g4⟩
theorem onl_fall (me : Mem) (q : Nat) (day : Int32) : Onl me (fallM me q day) q (q + 6) := by
  refine ⟨?_, fun x hx => funext fun b => ?_⟩
  · unfold fallM; split <;> rfl
  · show gI (fallM me q day) x b = gI me x b
    unfold fallM
    split
    · rw [gI_uI, if_neg (by omega), gI_uI, if_neg (by omega)]
    · rw [gI_uI, if_neg (by omega)]
theorem rep_like {me : Mem} {q q2 : Nat} {P : Prs} (h : RepP me q2 P) (hne : q2 + 6 ≤ q ∨ q + 6 ≤ q2) : RepP (likeM me q q2) q P := by
  obtain ⟨h1, h2, h3, h4, h5, h6, h7, h8⟩ := h
  have e0 : ∀ b, 5 ≤ b → b ≤ 9 → gI (likeM me q q2) q b = gI me q2 b := fun b h1 h2 => by
    simp only [likeM, g_def, g_raw]; rw [if_pos (by refine ⟨?_, ?_, ?_⟩ <;> first | trivial | rfl | assumption | omega)]
  have e1 : ∀ k b, 1 ≤ k → k ≤ 4 → b < 8 → gI (likeM me q q2) (q + k) b = gI me (q2 + k) b := fun k b h1 h2 h3 => by
    simp only [likeM, g_def, g_raw]; rw [if_neg (by omega), if_pos (by omega), show q2 + (q + k - q) = q2 + k by omega]
  refine ⟨(e0 6 (by omega) (by omega)).trans h1, (e0 7 (by omega) (by omega)).trans h2, (e0 8 (by omega) (by omega)).trans h3, (e0 9 (by omega) (by omega)).trans h4, (e0 5 (by omega) (by omega)).trans h5, h6, fun c co hc => ?_, fun l hl => ?_⟩
  · have hlt : c < P.2.1.length := (List.getElem?_eq_some_iff.mp hc).1
    obtain ⟨g1, g2, g3, g4⟩ := h7 c co hc
    exact ⟨(e1 1 c (by omega) (by omega) (by omega)).trans g1, (e1 2 c (by omega) (by omega) (by omega)).trans g2, (e1 3 c (by omega) (by omega) (by omega)).trans g3, (e1 4 c (by omega) (by omega) (by omega)).trans g4⟩
  · rw [← h8 l hl]
    simp only [likeM, g_def, g_raw]; rw [if_neg (by omega), if_neg (by omega), if_pos (by refine ⟨?_, ?_⟩ <;> first | trivial | rfl | assumption | omega)]
theorem onl_like (me : Mem) (q q2 : Nat) : Onl me (likeM me q q2) q (q + 6) := by
  refine ⟨rfl, fun x hx => funext fun b => ?_⟩
  simp only [likeM]
  grind
