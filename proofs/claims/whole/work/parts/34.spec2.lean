/-! ===== specs, second part ===== -/
def lastC (P : Prs) : Coat := (P.2.1[P.2.1.length - 1]?).getD (0, 0, 0, 0)
def setLast (P : Prs) (co : Coat) : Prs := (P.1, P.2.1.set (P.2.1.length - 1) co, P.2.2)
def ring2 (S : St) (a b : Int32) : Int32 × St := if (getP S.1.1 a).2.1.length = 0 ∨ (getP S.1.1 b).2.1.length = 0 then (-2, S) else if sav2 (getP S.1.1 a) (getP S.1.1 b) = 0 then (-4, S) else (sav2 (getP S.1.1 a) (getP S.1.1 b), setPs S ((S.1.1.set a.toNatClampNeg (setLast (getP S.1.1 a) (lastC (getP S.1.1 b)))).set b.toNatClampNeg (setLast (getP S.1.1 b) (lastC (getP S.1.1 a)))))
def ring3 (S : St) (a b c : Int32) : Int32 × St := if (getP S.1.1 a).2.1.length = 0 ∨ (getP S.1.1 b).2.1.length = 0 ∨ (getP S.1.1 c).2.1.length = 0 then (-2, S) else if sav3 (getP S.1.1 a) (getP S.1.1 b) (getP S.1.1 c) = 0 then (-4, S) else (sav3 (getP S.1.1 a) (getP S.1.1 b) (getP S.1.1 c), setPs S (((S.1.1.set a.toNatClampNeg (setLast (getP S.1.1 a) (lastC (getP S.1.1 c)))).set b.toNatClampNeg (setLast (getP S.1.1 b) (lastC (getP S.1.1 a)))).set c.toNatClampNeg (setLast (getP S.1.1 c) (lastC (getP S.1.1 b)))))
noncomputable def sp_ring (S : St) (a b c : Int32) : Int32 × St := cif (isPn S.1.1 a ∧ isPn S.1.1 b ∧ ¬ a = b ∧ (c = -1 ∨ (isPn S.1.1 c ∧ ¬ a = c ∧ ¬ b = c))) (if c = -1 then ring2 S a b else ring3 S a b c) (-1, S)
def ringA (B : Bst) (i : Int32) : Int32 := if i < B.2.1 then (if i < 0 then (if B.2.1 = 0 then -4 else B.1) else if i = 0 then B.2.2.1 else if i = 1 then B.2.2.2.1 else B.2.2.2.2) else -4
noncomputable def sp_rings (S : St) (i : Int32) : Int32 × St := cif (inR i (-1) 2) (ringA (bestB S.1.1) i, S) (-1, S)
def owedP (P : Prs) (l : Int32) : Int32 := sumL (P.2.1.map (fun co => if co.1 = l then co.2.1 else 0))
noncomputable def sp_owed (S : St) (l : Int32) : Int32 × St := cif (inR l 0 4) (minI (sumL (S.1.1.map (fun P => owedP P l))) 9999999, S) (-1, S)
def rOf (P : Prs) (c : Nat) : Int32 := ((P.2.1[c]?).getD (0, 0, 0, 0)).2.2.1
def aOf (P : Prs) (c : Nat) : Int32 := ((P.2.1[c]?).getD (0, 0, 0, 0)).2.1
def tOf (P : Prs) (c : Nat) : Int32 := P.2.2 ((P.2.1[c]?).getD (0, 0, 0, 0)).1.toNatClampNeg
def planS (P : Prs) (off : Int32) : Bpl := foldB [] (fun o => sim (rOf P) (tOf P) P.1.2.1 P.2.1.length o (2 ^ P.2.1.length - 1) 0 P.1.1 (aOf P) 0) (361, 0, []) (comp off P.2.1.length (2 ^ P.2.1.length - 1))
def freeA (P : Prs) (off w : Int32) : Int32 := if 360 < (planS P off).1 then -4 else if w = 0 then nI (planS P off).1 else if w = 1 then (planS P off).2.1 else if w - 2 < nI P.2.1.length then nI (((planS P off).2.2[(w - 2).toNatClampNeg]?).getD 0) else -4
noncomputable def sp_free (S : St) (p w : Int32) : Int32 × St := cif (isPn S.1.1 p ∧ inR w 0 7) (if 6 < (getP S.1.1 p).2.1.length then (-3, S) else (freeA (getP S.1.1 p) S.1.2.2.1.1 w, S)) (-1, S)
noncomputable def sp_saves (S : St) (p c : Int32) : Int32 × St := cif (isCt S.1.1 p c) (if 6 < (getP S.1.1 p).2.1.length then (-3, S) else cif (0 < c ∧ c < nI (getP S.1.1 p).2.1.length - 1) (nI (planS (getP S.1.1 p) S.1.2.2.1.1).1 - nI (planS (takeP (getP S.1.1 p) c.toNatClampNeg) S.1.2.2.1.1).1, S) (-2, S)) (-1, S)
def brF (P : Prs) (h : Nat → Int32) (day : Nat) : Nat → Nat → Int32
  | 0, _ => -4
  | k + 1, dd => if maxI (P.1.2.2.1 - h (dd / 30)) 0 < thickOf P then nI (dd - day) else brF P h day k (dd + 1)
noncomputable def sp_bears (S : St) (p : Int32) : Int32 × St := cif (isPn S.1.1 p) (brF (getP S.1.1 p) S.1.2.1 S.1.2.2.2.1 (359 - S.1.2.2.2.1) (S.1.2.2.2.1 + 1), S) (-1, S)
noncomputable def sp_ware (S : St) (a t : Int32) : Int32 × St := cif (inR a 1 9999 ∧ inR t 1 9) (if 8 ≤ S.1.2.2.2.2.length then (-3, S) else (nI S.1.2.2.2.2.length, ((S.1.1, S.1.2.1, S.1.2.2.1, S.1.2.2.2.1, S.1.2.2.2.2 ++ [(a, t)]), S.2))) (-1, S)
def wAm (ws : List (Int32 × Int32)) (k : Nat) : Int32 := ((ws[k]?).getD (0, 0)).1
def wTh (ws : List (Int32 × Int32)) (k : Nat) : Int32 := ((ws[k]?).getD (0, 0)).2
def unF (ws : List (Int32 × Int32)) (w th am : Int32) : Nat → Int32 × Int32 → Int32 × Int32
  | 0, r => r
  | s + 1, r => unF ws w th am s (if ¬ ((nI (s + 1) >>> (w &&& 31)) &&& 1 = 0) ∧ condSum (nI (s + 1)) (wTh ws) ws.length = th ∧ condSum (nI (s + 1)) (wAm ws) ws.length = am then (r.1 + 1, nI (s + 1)) else r)
noncomputable def sp_under (S : St) (w th am wh : Int32) : Int32 × St := cif (inR w 0 (nI S.1.2.2.2.2.length - 1) ∧ inR th 1 99 ∧ inR am 1 99999 ∧ inR wh 0 1) ((if wh = 0 then (unF S.1.2.2.2.2 w th am (2 ^ S.1.2.2.2.2.length - 1) (0, -4)).1 else (unF S.1.2.2.2.2 w th am (2 ^ S.1.2.2.2.2.length - 1) (0, -4)).2), S) (-1, S)
def sp_image (S : St) : Int32 × St := (1, (S.1, some S.1, S.2.2))
def sp_restore (S : St) : Int32 × St := match S.2.1 with
  | none => (-4, S)
  | some V => (1, (V, S.2))
/-! plans depend on the coats alone -/
def agr (n : Nat) (A A' : Nat → Int32) : Prop := ∀ c, c < n → A c = A' c
theorem wait_congr {r r' t t' : Nat → Int32} {inc : Int32} {n m c : Nat} (hr : agr n r r') (ht : agr n t t') (hc : c < n) : ∀ k day p A A', agr n A A' → (waitU r t inc n m c k day p A = none ∧ waitU r' t' inc n m c k day p A' = none) ∨ ∃ d2 p2 A2 A3, waitU r t inc n m c k day p A = some (d2, p2, A2) ∧ waitU r' t' inc n m c k day p A' = some (d2, p2, A3) ∧ agr n A2 A3
  | 0, day, p, A, A', hA => by
    unfold waitU
    rw [hA c hc]
    split
    · exact Or.inl ⟨rfl, rfl⟩
    · exact Or.inr ⟨day, p, A, A', rfl, rfl, hA⟩
  | k + 1, day, p, A, A', hA => by
    unfold waitU
    rw [hA c hc]
    split
    · have e : taxN t n m = taxN t' n m := condSum_congr n ht
      rw [e]
      refine wait_congr hr ht hc k _ _ _ _ (fun e he => ?_)
      unfold growN
      rw [hA e he, hr e he]
    · exact Or.inr ⟨day, p, A, A', rfl, rfl, hA⟩
theorem sim_congr {r r' t t' : Nat → Int32} {inc : Int32} {n : Nat} (hr : agr n r r') (ht : agr n t t') : ∀ o m day p A A' pd, (∀ c ∈ o, c < n) → agr n A A' → sim r t inc n o m day p A pd = sim r' t' inc n o m day p A' pd
  | [], m, day, p, A, A', pd, _, _ => rfl
  | c :: o, m, day, p, A, A', pd, ho, hA => by
    unfold sim
    have hc := ho c List.mem_cons_self
    rcases wait_congr (m := m) (inc := inc) hr ht hc (360 - day) day p A A' hA with ⟨h1, h2⟩ | ⟨d2, p2, A2, A3, h1, h2, h3⟩
    · rw [h1, h2]
    · rw [h1, h2]
      dsimp only
      rw [h3 c hc]
      exact sim_congr hr ht o _ _ _ _ _ _ (fun e he => ho e (List.mem_cons_of_mem _ he)) h3
theorem foldB_congr {pre : List Nat} {res res' : List Nat → Option (Nat × Int32)} {l : List (List Nat)} : ∀ {B : Bpl}, (∀ o ∈ l, res o = res' o) → foldB pre res B l = foldB pre res' B l := by
  induction l with
  | nil => intro B _; rfl
  | cons o l ih =>
    intro B h
    unfold foldB
    rw [List.foldl_cons, List.foldl_cons]
    have e : stepB pre res B o = stepB pre res' B o := by unfold stepB; rw [h o List.mem_cons_self]
    rw [e]
    exact ih (fun o' ho' => h o' (List.mem_cons_of_mem _ ho'))
theorem comp_mem {off : Int32} {n : Nat} : ∀ k m, m < 64 → (∀ c, c < 6 → m.testBit c = true → c < n) → ∀ o ∈ comp off k m, ∀ c ∈ o, c < n
  | 0, m, _, _, o, ho, c, hc => by
    unfold comp at ho
    rw [List.mem_singleton.mp ho] at hc
    cases hc
  | k + 1, m, hm, hb, o, ho, c, hc => by
    unfold comp at ho
    obtain ⟨e, he, ho2⟩ := List.mem_flatMap.mp ho
    obtain ⟨o', ho', rfl⟩ := List.mem_map.mp ho2
    unfold nexts at he
    obtain ⟨he1, he2⟩ := List.mem_filter.mp he
    have he6 := List.mem_range.mp he1
    simp only [Bool.and_eq_true] at he2
    rcases List.mem_cons.mp hc with rfl | hc
    · exact hb c he6 he2.1
    · have hcr := cnt_rem m hm e he6 he2.1
      exact comp_mem k (m - 2 ^ e) hcr.2.1 (fun c' h6 h7 => hb c' h6 (hcr.2.2 c' h6 h7)) o' ho' c hc
theorem plan_eq {me : Mem} {q : Nat} {P : Prs} (h : RepP me q P) (hl : lenP P) (hn : P.2.1.length ≤ 6) (off : Int32) : planM me q P.2.1.length off = planS P off := by
  obtain ⟨h1, h2, h3, h4, h5, h6, h7, h8⟩ := h
  unfold planM planS
  rw [h1, h2]
  have hf := full_facts P.2.1.length hn
  refine foldB_congr (fun o ho => ?_)
  have gc : ∀ c, c < P.2.1.length → ∃ co, P.2.1[c]? = some co := fun c hc => ⟨_, List.getElem?_eq_getElem hc⟩
  refine sim_congr (fun c hc => ?_) (fun c hc => ?_) o _ _ _ _ _ _ (comp_mem _ _ hf.1 hf.2.2 o ho) (fun c hc => ?_)
  · obtain ⟨co, hco⟩ := gc c hc
    unfold rOf
    rw [hco]
    exact (h7 c co hco).2.2.1
  · obtain ⟨co, hco⟩ := gc c hc
    obtain ⟨l, hl5, el⟩ := hl co (List.mem_of_getElem? hco)
    unfold tOf taxF
    rw [hco, (h7 c co hco).1]
    dsimp only [Option.getD_some]
    rw [el, nI_clamp (by omega)]
    exact h8 l hl5
  · obtain ⟨co, hco⟩ := gc c hc
    unfold aOf
    rw [hco]
    exact (h7 c co hco).2.1
/-- the bounds that a plan wants, out of the person's -/
theorem plan_ok {me : Mem} {q k day : Nat} {P : Prs} (h : RepP me q P) (ho : okPr k day P) (hk : 10000 * k + 99 * day ≤ 999999) : okD (gI me (q + 3)) (taxF me q) (gI me q 7) P.2.1.length ∧ okp (gI me q 6) ∧ okA (gI me (q + 2)) P.2.1.length ∧ ∀ c, c < P.2.1.length → ∃ l, l < 5 ∧ gI me (q + 1) c = nI l := by
  obtain ⟨h1, h2, h3, h4, h5, h6, h7, h8⟩ := h
  obtain ⟨o1, o2, o3, o4, o5⟩ := ho
  have gc : ∀ c, c < P.2.1.length → ∃ co, P.2.1[c]? = some co := fun c hc => ⟨_, List.getElem?_eq_getElem hc⟩
  refine ⟨⟨by rw [h2]; exact o2, fun c hc => ?_⟩, ⟨by rw [h1]; exact o1.1, by rw [h1]; omega⟩, fun c hc => ?_, fun c hc => ?_⟩
  · obtain ⟨co, hco⟩ := gc c hc
    obtain ⟨⟨l, hl5, el⟩, a1, a2⟩ := o4 co (List.mem_of_getElem? hco)
    refine ⟨?_, by rw [(h7 c co hco).2.2.1]; exact a2⟩
    unfold taxF
    rw [(h7 c co hco).1, el, nI_clamp (by omega), h8 l hl5]
    exact o5 l hl5
  · obtain ⟨co, hco⟩ := gc c hc
    rw [(h7 c co hco).2.1]
    exact (o4 co (List.mem_of_getElem? hco)).2.1
  · obtain ⟨co, hco⟩ := gc c hc
    rw [(h7 c co hco).1]
    exact (o4 co (List.mem_of_getElem? hco)).1
/-! outermost coats changed -/
theorem rep_swap {me : Mem} {q q2 : Nat} {P P2 : Prs} (h : RepP me q P) (h2 : RepP me q2 P2) (hn : 0 < P.2.1.length) (hn2 : 0 < P2.2.1.length) (hne : q2 + 6 ≤ q ∨ q + 6 ≤ q2) : RepP (swapM me q q2 (P.2.1.length - 1) (P2.2.1.length - 1)) q (setLast P (lastC P2)) ∧ RepP (swapM me q q2 (P.2.1.length - 1) (P2.2.1.length - 1)) q2 (setLast P2 (lastC P)) := by
  obtain ⟨a1, a2, a3, a4, a5, a6, a7, a8⟩ := h
  obtain ⟨b1, b2, b3, b4, b5, b6, b7, b8⟩ := h2
  have ne : ∀ x y, ¬ (q + 1 ≤ x ∧ x ≤ q + 4) → ¬ (q2 + 1 ≤ x ∧ x ≤ q2 + 4) → gI (swapM me q q2 (P.2.1.length - 1) (P2.2.1.length - 1)) x y = gI me x y := fun x y h1 h2 => by
    simp only [swapM, g_def, g_raw]
    rw [if_neg (fun q => h1 ⟨q.1, q.2.1⟩), if_neg (fun q => h2 ⟨q.1, q.2.1⟩)]
  have s1 : ∀ j y, 1 ≤ j → j ≤ 4 → gI (swapM me q q2 (P.2.1.length - 1) (P2.2.1.length - 1)) (q + j) y = if y = P.2.1.length - 1 then gI me (q2 + j) (P2.2.1.length - 1) else gI me (q + j) y := fun j y h1 h2 => by
    simp only [swapM, g_def, g_raw]
    by_cases hy : y = P.2.1.length - 1
    · rw [if_pos ⟨by omega, by omega, hy⟩, if_pos hy, show q2 + (q + j - q) = q2 + j by omega]
    · rw [if_neg (fun q => hy q.2.2), if_neg (by omega), if_neg hy]
  have s2 : ∀ j y, 1 ≤ j → j ≤ 4 → gI (swapM me q q2 (P.2.1.length - 1) (P2.2.1.length - 1)) (q2 + j) y = if y = P2.2.1.length - 1 then gI me (q + j) (P.2.1.length - 1) else gI me (q2 + j) y := fun j y h1 h2 => by
    simp only [swapM, g_def, g_raw]
    rw [if_neg (by omega)]
    by_cases hy : y = P2.2.1.length - 1
    · rw [if_pos ⟨by omega, by omega, hy⟩, if_pos hy, show q + (q2 + j - q2) = q + j by omega]
    · rw [if_neg (fun q => hy q.2.2), if_neg hy]
  obtain ⟨co, hco⟩ : ∃ co, P.2.1[P.2.1.length - 1]? = some co := ⟨_, List.getElem?_eq_getElem (by omega)⟩
  obtain ⟨co2, hco2⟩ : ∃ co, P2.2.1[P2.2.1.length - 1]? = some co := ⟨_, List.getElem?_eq_getElem (by omega)⟩
  have el : lastC P = co := by unfold lastC; rw [hco]; rfl
  have el2 : lastC P2 = co2 := by unfold lastC; rw [hco2]; rfl
  obtain ⟨c1, c2, c3, c4⟩ := a7 _ co hco
  obtain ⟨d1, d2, d3, d4⟩ := b7 _ co2 hco2
  refine ⟨⟨(ne _ _ (by omega) (by omega)).trans a1, (ne _ _ (by omega) (by omega)).trans a2, (ne _ _ (by omega) (by omega)).trans a3, (ne _ _ (by omega) (by omega)).trans a4, (ne _ _ (by omega) (by omega)).trans (by simpa [setLast] using a5), by simpa [setLast] using a6, fun c cc hc => ?_, fun j hj => (ne _ _ (by omega) (by omega)).trans (a8 j hj)⟩, ⟨(ne _ _ (by omega) (by omega)).trans b1, (ne _ _ (by omega) (by omega)).trans b2, (ne _ _ (by omega) (by omega)).trans b3, (ne _ _ (by omega) (by omega)).trans b4, (ne _ _ (by omega) (by omega)).trans (by simpa [setLast] using b5), by simpa [setLast] using b6, fun c cc hc => ?_, fun j hj => (ne _ _ (by omega) (by omega)).trans (b8 j hj)⟩⟩
  · simp only [setLast, el2] at hc
    rw [s1 1 c (by omega) (by omega), s1 2 c (by omega) (by omega), s1 3 c (by omega) (by omega), s1 4 c (by omega) (by omega)]
    rw [List.getElem?_set] at hc
    by_cases hcl : P.2.1.length - 1 = c
    · rw [if_pos hcl, if_pos (by omega)] at hc
      cases hc
      rw [if_pos hcl.symm, if_pos hcl.symm, if_pos hcl.symm, if_pos hcl.symm]
      exact ⟨d1, d2, d3, d4⟩
    · rw [if_neg hcl] at hc
      rw [if_neg (fun q => hcl q.symm), if_neg (fun q => hcl q.symm), if_neg (fun q => hcl q.symm), if_neg (fun q => hcl q.symm)]
      exact a7 c cc hc
  · simp only [setLast, el] at hc
    rw [s2 1 c (by omega) (by omega), s2 2 c (by omega) (by omega), s2 3 c (by omega) (by omega), s2 4 c (by omega) (by omega)]
    rw [List.getElem?_set] at hc
    by_cases hcl : P2.2.1.length - 1 = c
    · rw [if_pos hcl, if_pos (by omega)] at hc
      cases hc
      rw [if_pos hcl.symm, if_pos hcl.symm, if_pos hcl.symm, if_pos hcl.symm]
      exact ⟨c1, c2, c3, c4⟩
    · rw [if_neg hcl] at hc
      rw [if_neg (fun q => hcl q.symm), if_neg (fun q => hcl q.symm), if_neg (fun q => hcl q.symm), if_neg (fun q => hcl q.symm)]
      exact b7 c cc hc
theorem swap_out {me : Mem} {q q2 i j : Nat} : (swapM me q q2 i j).2 = me.2 ∧ ∀ a, ¬ (q ≤ a ∧ a < q + 6) → ¬ (q2 ≤ a ∧ a < q2 + 6) → (swapM me q q2 i j).1 a = me.1 a := by
  refine ⟨rfl, fun a h1 h2 => funext fun b => ?_⟩
  simp only [swapM]
  rw [if_neg (by omega), if_neg (by omega)]
