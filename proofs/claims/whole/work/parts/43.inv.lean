/-! ===== bounds that last ===== -/
theorem sumL_cons (a : Int32) (t : List Int32) : sumL (a :: t) = a + sumL t := by
  show (a :: t).foldl (fun s x => s + x) 0 = _
  rw [List.foldl_cons, foldl_sum, Int32.zero_add]
theorem sumL_b {b : Nat} : ∀ l : List Int32, (∀ x ∈ l, 0 ≤ x.toInt ∧ x.toInt ≤ b) → b * l.length < 2 ^ 31 → 0 ≤ (sumL l).toInt ∧ (sumL l).toInt ≤ ((b * l.length : Nat) : Int)
  | [], _, _ => by
    have e : (sumL []).toInt = 0 := rfl
    rw [e]
    simp
  | a :: t, h, hb => by
    rw [List.length_cons, Nat.mul_succ] at hb
    have h1 := sumL_b t (fun x hx => h x (List.mem_cons_of_mem _ hx)) (by omega)
    have h2 := h a List.mem_cons_self
    rw [List.length_cons, sumL_cons, ti_add (by omega) (by omega)]
    rw [Nat.mul_succ]
    omega
theorem taxOf_b {k day : Nat} {P : Prs} (h : okPr k day P) (h8 : P.2.1.length ≤ 8) : 0 ≤ (taxOf P).toInt ∧ (taxOf P).toInt ≤ 72 := by
  have h1 := sumL_b (b := 9) (P.2.1.map (fun co => P.2.2 co.1.toNatClampNeg)) (fun x hx => by
    obtain ⟨co, hco, rfl⟩ := List.mem_map.mp hx
    obtain ⟨l, hl, e⟩ := (h.2.2.2.1 co hco).1
    have := h.2.2.2.2 l hl
    rw [e, nI_clamp (by omega)]
    exact this) (by rw [List.length_map]; omega)
  rw [List.length_map] at h1
  unfold taxOf
  omega
theorem purse_eq {p i t : Int32} (hp0 : 0 ≤ p.toInt) (hp1 : p.toInt ≤ 999900) (hi0 : 0 ≤ i.toInt) (hi1 : i.toInt ≤ 99) (ht0 : 0 ≤ t.toInt) (ht1 : t.toInt ≤ 1000) : (if p + i - t < 0 then 0 else minI (p + i - t) 999999) = purseI p i t := by
  apply Int32.toInt_inj.mp
  rw [ti_purse hp0 (by omega) hi0 hi1 ht0 ht1]
  have e1 := ti_add (a := p) (b := i) (by omega) (by omega)
  have e2 := ti_sub (a := p + i) (b := t) (by omega) (by omega)
  have e0 : (0 : Int32).toInt = 0 := rfl
  have e9 : (999999 : Int32).toInt = 999999 := rfl
  by_cases h : p + i - t < 0
  · rw [if_pos h]
    rw [Int32.lt_iff_toInt_lt] at h
    omega
  · rw [if_neg h, ti_min]
    rw [Int32.lt_iff_toInt_lt] at h
    omega
theorem ok_rest {k day : Nat} {P : Prs} (h : okPr k day P) (h8 : P.2.1.length ≤ 8) (hk : 10000 * k + 99 * day ≤ 900000) : okPr k (day + 1) (restP P) := by
  have ht := taxOf_b h h8
  obtain ⟨h1, h2, h3, h4, h5⟩ := h
  refine ⟨?_, h2, h3, fun co hco => ?_, h5⟩
  · show 0 ≤ (purseI P.1.1 P.1.2.1 (taxOf P)).toInt ∧ (purseI P.1.1 P.1.2.1 (taxOf P)).toInt ≤ _
    rw [ti_purse h1.1 (by omega) h2.1 h2.2 ht.1 (by omega)]
    omega
  · obtain ⟨co', hco', rfl⟩ := List.mem_map.mp hco
    obtain ⟨g1, g2, g3⟩ := h4 co' hco'
    have := ti_grow g2.1 g2.2 g3.1 g3.2
    exact ⟨g1, ⟨by show 0 ≤ (growI co'.2.1 co'.2.2.1).toInt; omega, by show (growI co'.2.1 co'.2.2.1).toInt ≤ _; omega⟩, g3⟩
theorem ok_fall {k day : Nat} {P : Prs} {dd : Int32} (h : okPr k day P) (hd : 0 ≤ dd.toInt) : okPr k day (fallP P dd) := by
  obtain ⟨h1, h2, h3, h4, h5⟩ := h
  have e0 : (0 : Int32).toInt = 0 := rfl
  refine ⟨?_, h2, ?_, h4, h5⟩
  · show 0 ≤ (0 : Int32).toInt ∧ (0 : Int32).toInt ≤ _
    rw [e0]
    omega
  · show (if P.1.2.2.2 = -4 then dd else P.1.2.2.2) = -4 ∨ 0 ≤ (if P.1.2.2.2 = -4 then dd else P.1.2.2.2).toInt
    by_cases hf : P.1.2.2.2 = -4
    · rw [if_pos hf]; exact Or.inr hd
    · rw [if_neg hf]; exact h3
theorem ok_night {k day : Nat} {P : Prs} {h dd : Int32} (ho : okPr k day P) (h8 : P.2.1.length ≤ 8) (hk : 10000 * k + 99 * day ≤ 900000) (hd : 0 ≤ dd.toInt) : okPr k (day + 1) (nightP P h dd) := by
  unfold nightP
  split
  · exact ok_fall (ok_rest ho h8 hk) hd
  · exact ok_rest ho h8 hk
theorem wf_night {k : Nat} {W : Wld} (h : wfW k W) (h8 : ∀ P ∈ W.1, P.2.1.length ≤ 8) (hk : k ≤ 64) (hd : W.2.2.2.1 < 359) : wfW k (nightWd W) ∧ ∀ P ∈ (nightWd W).1, P.2.1.length ≤ 8 := by
  obtain ⟨h1, h2, h3⟩ := h
  refine ⟨⟨fun P hP => ?_, ?_, ?_⟩, fun P hP => ?_⟩
  · obtain ⟨P', hP', rfl⟩ := List.mem_map.mp hP
    exact ok_night (h1 P' hP') (h8 P' hP') (by omega) (by rw [nI_toInt (by omega)]; omega)
  · show W.2.2.2.1 + 1 ≤ 359
    omega
  · unfold nightWd
    simpa using h3
  · obtain ⟨P', hP', rfl⟩ := List.mem_map.mp hP
    rw [night_len]
    exact h8 P' hP'
theorem wf_nights {k : Nat} : ∀ (n : Nat) {W : Wld}, wfW k W → (∀ P ∈ W.1, P.2.1.length ≤ 8) → k ≤ 64 → W.2.2.2.1 + n ≤ 359 → wfW k (nightsW n W) ∧ ∀ P ∈ (nightsW n W).1, P.2.1.length ≤ 8
  | 0, W, h, h8, _, _ => ⟨h, h8⟩
  | n + 1, W, h, h8, hk, hd => by
    have h1 := wf_night h h8 hk (by omega)
    exact wf_nights n h1.1 h1.2 hk (by show W.2.2.2.1 + 1 + n ≤ 359; omega)
theorem nightsW_succ : ∀ (n : Nat) (W : Wld), nightsW (n + 1) W = nightWd (nightsW n W)
  | 0, W => rfl
  | n + 1, W => nightsW_succ n (nightWd W)
def okR (P : Prs) : Prop := ∃ k day, okPr k day P ∧ 10000 * k + 99 * day ≤ 900000
