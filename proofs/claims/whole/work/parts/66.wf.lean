/-! ===== what lasts over the calls ===== -/
def okW (k : Nat) (W : Wld) : Prop := wfW k W ∧ ∀ P ∈ W.1, P.2.1.length ≤ 8
def okS (k : Nat) (S : St) : Prop := okW k S.1 ∧ (∀ V, S.2.1 = some V → okW k V) ∧ okB S.2.2.1.2 S.2.2.1.1
section WF
variable {k : Nat} {S : St} {W : Wld} {P P' : Prs}
theorem okPr.up {day : Nat} (h : okPr k day P) : okPr (k + 1) day P := by
  obtain ⟨h1, h2⟩ := h
  refine ⟨⟨h1.1, ?_⟩, h2⟩
  have := h1.2
  omega
theorem okW.up (h : okW k W) : okW (k + 1) W := ⟨⟨fun P hP => (h.1.1 P hP).up, h.1.2⟩, h.2⟩
theorem okS.up (h : okS k S) : okS (k + 1) S := ⟨h.1.up, fun V hV => (h.2.1 V hV).up, h.2.2⟩
theorem okS.w {W' : Wld} (h : okS k S) (hW : okW (k + 1) W') : okS (k + 1) (W', S.2) := ⟨hW, fun V hV => (h.2.1 V hV).up, h.2.2⟩
theorem okW.set {i : Nat} (h : okW k W) (hP : okPr (k + 1) W.2.2.2.1 P') (h8 : P'.2.1.length ≤ 8) : okW (k + 1) (W.1.set i P', W.2) := by
  refine ⟨⟨fun P hP' => ?_, h.1.2.1, ?_⟩, fun P hP' => ?_⟩
  · rcases List.mem_or_eq_of_mem_set hP' with q | rfl
    · exact (h.1.1 P q).up
    · exact hP
  · show (W.1.set i P').length ≤ 5
    rw [List.length_set]
    exact h.1.2.2
  · rcases List.mem_or_eq_of_mem_set hP' with q | rfl
    · exact h.2 P q
    · exact h8
theorem okS.set {i : Nat} (h : okS k S) (hP : okPr (k + 1) S.1.2.2.2.1 P') (h8 : P'.2.1.length ≤ 8) : okS (k + 1) (setPs S (S.1.1.set i P')) := h.w (h.1.set hP h8)
theorem getP_mem {ps : List Prs} {p : Int32} (h : isPn ps p) (h5 : ps.length ≤ 5) : getP ps p ∈ ps := by
  obtain ⟨j, hj, rfl⟩ := h
  rw [getP_nI (List.getElem?_eq_getElem hj) (by omega)]
  exact List.getElem_mem hj
theorem inR_ti {v a b : Int32} (h : inR v a b) : a.toInt ≤ v.toInt ∧ v.toInt ≤ b.toInt := ⟨Int32.le_iff_toInt_le.mp h.1, Int32.le_iff_toInt_le.mp h.2⟩
theorem len_of {v : Int32} (h : inR v 0 4) : ∃ l, l < 5 ∧ v = nI l := by
  obtain ⟨j, hj, rfl⟩ := nI_of2 (x := v) (M := 4) (n := 4) rfl (Int32.not_lt.mpr h.1) h.2
  exact ⟨j, by omega, rfl⟩
theorem ok_person (h : okS k S) (pu inc str : Int32) : okS (k + 1) (sp_person S pu inc str).2 := by
  unfold sp_person
  by_cases hc : inR pu 0 9999 ∧ inR inc 0 99 ∧ inR str 1 60
  · rw [cif_t hc]
    by_cases h5 : 5 ≤ S.1.1.length
    · rw [if_pos h5]; exact h.up
    · rw [if_neg h5]
      have a1 := inR_ti hc.1
      have a2 := inR_ti hc.2.1
      have e0 : (0 : Int32).toInt = 0 := rfl
      have e1 : (9999 : Int32).toInt = 9999 := rfl
      have e2 : (99 : Int32).toInt = 99 := rfl
      refine h.w ⟨⟨fun P hP => ?_, h.1.1.2.1, ?_⟩, fun P hP => ?_⟩
      · rcases List.mem_append.mp hP with q | q
        · exact (h.1.1.1 P q).up
        · rw [List.mem_singleton.mp q]
          refine ⟨⟨by show 0 ≤ pu.toInt; omega, by show pu.toInt ≤ _; omega⟩, ⟨by show 0 ≤ inc.toInt; omega, by show inc.toInt ≤ 99; omega⟩, Or.inl rfl, fun co hco => ?_, fun l hl => ?_⟩
          · cases hco
          · show 0 ≤ (0 : Int32).toInt ∧ (0 : Int32).toInt ≤ 9
            rw [e0]
            omega
      · show (S.1.1 ++ [_]).length ≤ 5
        rw [List.length_append, List.length_singleton]
        omega
      · rcases List.mem_append.mp hP with q | q
        · exact h.1.2 P q
        · rw [List.mem_singleton.mp q]
          exact Nat.zero_le _
  · rw [cif_f hc]; exact h.up
theorem ok_tax (h : okS k S) (p l v : Int32) : okS (k + 1) (sp_tax S p l v).2 := by
  unfold sp_tax
  by_cases hc : isPn S.1.1 p ∧ inR l 0 4 ∧ inR v 0 9
  · rw [cif_t hc]
    have hm := getP_mem hc.1 h.1.1.2.2
    obtain ⟨h1, h2, h3, h4, h5⟩ := (h.1.1.1 _ hm).up
    have a1 := inR_ti hc.2.2
    have e0 : (0 : Int32).toInt = 0 := rfl
    have e1 : (9 : Int32).toInt = 9 := rfl
    refine h.set ⟨h1, h2, h3, h4, fun j hj => ?_⟩ (h.1.2 (getP S.1.1 p) hm)
    show 0 ≤ (if j = l.toNatClampNeg then v else (getP S.1.1 p).2.2 j).toInt ∧ (if j = l.toNatClampNeg then v else (getP S.1.1 p).2.2 j).toInt ≤ 9
    split
    · omega
    · exact h5 j hj
  · rw [cif_f hc]; exact h.up
theorem ok_heat (h : okS k S) (mo v : Int32) : okS (k + 1) (sp_heat S mo v).2 := by
  unfold sp_heat
  by_cases hc : inR mo 0 11 ∧ inR v 0 40
  · rw [cif_t hc]
    exact h.w ⟨⟨h.1.up.1.1, h.1.1.2.1, h.1.1.2.2⟩, h.1.2⟩
  · rw [cif_f hc]; exact h.up
theorem ok_rule (h : okS k S) (w v : Int32) : okS (k + 1) (sp_rule S w v).2 := by
  unfold sp_rule
  by_cases hc : w = 0 ∧ inR v 0 2
  · rw [cif_t hc]
    exact h.w ⟨⟨h.1.up.1.1, h.1.1.2.1, h.1.1.2.2⟩, h.1.2⟩
  · rw [cif_f hc]
    by_cases hc2 : w = 1 ∧ inR v 0 9
    · rw [cif_t hc2]
      exact h.w ⟨⟨h.1.up.1.1, h.1.1.2.1, h.1.1.2.2⟩, h.1.2⟩
    · rw [cif_f hc2]; exact h.up
theorem ok_type (h : okS k S) (w : Int64) (n : Int32) : okS (k + 1) (sp_type S w n).2 := by
  unfold sp_type
  by_cases hc : inR n 1 8 ∧ prnt w n.toNatClampNeg
  · rw [cif_t hc]
    split
    · exact h.up
    · refine ⟨h.1.up, fun V hV => (h.2.1 V hV).up, fun i hi => ?_⟩
      have hi : i < S.2.2.1.1 + n.toNatClampNeg := hi
      show 32 ≤ (if i < S.2.2.1.1 then S.2.2.1.2 i else btI w (nI (n.toNatClampNeg - 1 - (i - S.2.2.1.1)))) ∧ (if i < S.2.2.1.1 then S.2.2.1.2 i else btI w (nI (n.toNatClampNeg - 1 - (i - S.2.2.1.1)))) ≤ 126
      split
      · rename_i hlt
        exact h.2.2 i hlt
      · exact hc.2 _ (by omega)
  · rw [cif_f hc]; exact h.up
def okCo (co : Coat) : Prop := (∃ l, l < 5 ∧ co.1 = nI l) ∧ (0 ≤ co.2.1.toInt ∧ co.2.1.toInt ≤ 999999) ∧ (0 ≤ co.2.2.1.toInt ∧ co.2.2.1.toInt ≤ 20)
theorem coatS_ok {f : Nat → Int32} {n p : Nat} {co : Coat} (h : (coatS f n p).2 = some co) : okCo co := by
  have e0 : (0 : Int32).toInt = 0 := rfl
  have e1 : (1 : Int32).toInt = 1 := rfl
  have e9 : (9999 : Int32).toInt = 9999 := rfl
  have e20 : (20 : Int32).toInt = 20 := rfl
  unfold coatS at h
  dsimp only at h
  split at h
  · rename_i hl
    have n1 := @numS_pos f n (skB f n p + 1) 1 9999
    generalize numS f n (skB f n p + 1) 1 9999 = N1 at h n1
    obtain ⟨p2, o2⟩ := N1
    cases o2 with
    | none => cases h
    | some a =>
      dsimp only at h
      have ha := inR_ti (n1 rfl)
      have n2 : ∀ v, (opS (skS f n p2 114).2 (numS f n (skS f n p2 114).1 0 20) (skS f n p2 114).1 0).2 = some v → inR v 0 20 := by
        intro v hv
        unfold opS at hv
        split at hv
        · exact numS_pos hv
        · cases hv
          exact ⟨by decide, by decide⟩
      generalize opS (skS f n p2 114).2 (numS f n (skS f n p2 114).1 0 20) (skS f n p2 114).1 0 = N2 at h n2
      obtain ⟨p4, o4⟩ := N2
      cases o4 with
      | none => cases h
      | some r =>
        dsimp only at h
        have hr := inR_ti (n2 r rfl)
        generalize opS (skS f n p4 116).2 (digS f n (skS f n p4 116).1) (skS f n p4 116).1 1 = N3 at h
        obtain ⟨p6, o6⟩ := N3
        cases o6 with
        | none => cases h
        | some th =>
          cases h
          exact ⟨len_of hl, ⟨by show 0 ≤ a.toInt; omega, by show a.toInt ≤ 999999; omega⟩, ⟨by show 0 ≤ r.toInt; omega, by show r.toInt ≤ 20; omega⟩⟩
  · cases h
theorem rdS_ok {f : Nat → Int32} {n : Nat} : ∀ (j p : Nat) (acc l : List Coat), (∀ co ∈ acc, okCo co) → rdS f n j p acc = .inr l → (∀ co ∈ l, okCo co) ∧ l.length ≤ acc.length + j
  | 0, p, acc, l, _, h => by
    unfold rdS at h
    cases h
  | j + 1, p, acc, l, ha, h => by
    unfold rdS at h
    have n1 := @coatS_ok f n p
    generalize coatS f n p = C1 at h n1
    obtain ⟨p', o'⟩ := C1
    cases o' with
    | none => cases h
    | some co =>
      dsimp only at h
      have hc := n1 rfl
      have hac : ∀ c ∈ acc ++ [co], okCo c := fun c hm => by
        rcases List.mem_append.mp hm with q | q
        · exact ha c q
        · rw [List.mem_singleton.mp q]; exact hc
      split at h
      · cases h
        refine ⟨hac, ?_⟩
        rw [List.length_append, List.length_singleton]
        omega
      · split at h
        · cases h
        · generalize skS f n (skB f n p') 59 = S1 at h
          obtain ⟨p3, b3⟩ := S1
          cases b3 with
          | false => cases h
          | true =>
            have := rdS_ok j p3 (acc ++ [co]) l hac h
            rw [List.length_append, List.length_singleton] at this
            exact ⟨this.1, by omega⟩
theorem ok_coats (h : okS k S) (p : Int32) : okS (k + 1) (sp_coats S p).2 := by
  unfold sp_coats
  by_cases hc : isPn S.1.1 p
  · rw [cif_t hc]
    have hm := getP_mem hc h.1.1.2.2
    obtain ⟨h1, h2, h3, h4, h5⟩ := (h.1.1.1 _ hm).up
    cases hr : rdS S.2.2.1.2 S.2.2.1.1 6 0 [] with
    | inl q =>
      dsimp only
      exact ⟨h.1.up, fun V hV => (h.2.1 V hV).up, fun i hi => absurd hi (Nat.not_lt_zero _)⟩
    | inr l =>
      dsimp only
      have hl := rdS_ok 6 0 [] l (fun co hco => by cases hco) hr
      have hll : l.length ≤ 8 := by
        have := hl.2
        rw [List.length_nil] at this
        omega
      exact ⟨h.1.set ⟨h1, h2, h3, hl.1, h5⟩ hll, fun V hV => (h.2.1 V hV).up, fun i hi => absurd hi (Nat.not_lt_zero _)⟩
  · rw [cif_f hc]; exact h.up
theorem ok_takeS (h : okS k S) (hk : k ≤ 64) (p l a r t : Int32) : okS (k + 1) (sp_take S p l a r t).2 := by
  unfold sp_take
  by_cases hc : isPn S.1.1 p ∧ inR l 0 4 ∧ inR a 1 9999 ∧ inR r 0 20 ∧ inR t 1 9
  · rw [cif_t hc]
    have hm := getP_mem hc.1 h.1.1.2.2
    obtain ⟨h1, h2, h3, h4, h5⟩ := h.1.1.1 _ hm
    have hd := h.1.1.2.1
    have e0 : (0 : Int32).toInt = 0 := rfl
    have e1 : (1 : Int32).toInt = 1 := rfl
    have e9 : (9999 : Int32).toInt = 9999 := rfl
    have em : (999999 : Int32).toInt = 999999 := rfl
    have e20 : (20 : Int32).toInt = 20 := rfl
    have ha := inR_ti hc.2.2.1
    have hr := inR_ti hc.2.2.2.1
    split
    · exact h.up
    · rename_i h8
      have hs : ((getP S.1.1 p).1.1 + a).toInt = (getP S.1.1 p).1.1.toInt + a.toInt := ti_add (by omega) (by omega)
      have hmn := ti_min ((getP S.1.1 p).1.1 + a) 999999
      refine h.set ⟨⟨?_, ?_⟩, h2, h3, fun co hco => ?_, h5⟩ ?_
      · show 0 ≤ (minI ((getP S.1.1 p).1.1 + a) 999999).toInt
        omega
      · show (minI ((getP S.1.1 p).1.1 + a) 999999).toInt ≤ _
        omega
      · rcases List.mem_append.mp hco with q | q
        · exact h4 co q
        · rw [List.mem_singleton.mp q]
          exact ⟨len_of hc.2.1, ⟨by show 0 ≤ a.toInt; omega, by show a.toInt ≤ 999999; omega⟩, ⟨by show 0 ≤ r.toInt; omega, by show r.toInt ≤ 20; omega⟩⟩
      · show ((getP S.1.1 p).2.1 ++ [_]).length ≤ 8
        rw [List.length_append, List.length_singleton]
        omega
  · rw [cif_f hc]; exact h.up
theorem er_len {l : List Coat} {j : Nat} (h : l.length ≤ 8) : (l.eraseIdx j).length ≤ 8 := by
  rw [List.length_eraseIdx]
  split <;> omega
theorem ok_payS (h : okS k S) (p c : Int32) : okS (k + 1) (sp_pay S p c).2 := by
  unfold sp_pay
  by_cases hc : isCt S.1.1 p c
  · rw [cif_t hc]
    obtain ⟨i, P, j, hP, rfl, hj, rfl⟩ := hc
    have hi : i < S.1.1.length := (List.getElem?_eq_some_iff.mp hP).1
    have h5 := h.1.1.2.2
    have hm := List.mem_of_getElem? hP
    have h8 := h.1.2 _ hm
    rw [getP_nI hP (by omega), nI_clamp (n := i) (by omega), nI_clamp (n := j) (by omega)]
    by_cases hc2 : mayC S.1.2.2.1.1 (wsI P.2.1.length) (nI j)
    · rw [cif_t hc2]
      by_cases hc3 : P.1.1 < (getC P (nI j)).2.1
      · rw [cif_t hc3]; exact h.up
      · rw [cif_f hc3]
        have hge : ¬ P.1.1 < amtOf P j := by
          unfold getC at hc3
          rw [nI_clamp (by omega)] at hc3
          exact hc3
        exact h.set (ok_pay (h.1.1.1 _ hm).up hj hge) (er_len h8)
    · rw [cif_f hc2]; exact h.up
  · rw [cif_f hc]; exact h.up
theorem ok_nights (h : okS k S) (hk : k ≤ 64) (n : Int32) : okS (k + 1) (sp_nights S n).2 := by
  unfold sp_nights
  by_cases hc : inR n 1 60
  · rw [cif_t hc]
    split
    · exact h.up
    · have hw := wf_nights n.toNatClampNeg h.1.1 h.1.2 hk (by omega)
      exact h.w (okW.up ⟨hw.1, hw.2⟩)
  · rw [cif_f hc]; exact h.up
theorem ok_cut (h : okS k S) (p c : Int32) : okS (k + 1) (sp_cut S p c).2 := by
  unfold sp_cut
  by_cases hc : isCt S.1.1 p c
  · rw [cif_t hc]
    obtain ⟨i, P, j, hP, rfl, hj, rfl⟩ := hc
    have hi : i < S.1.1.length := (List.getElem?_eq_some_iff.mp hP).1
    have h5 := h.1.1.2.2
    have hm := List.mem_of_getElem? hP
    have h8 := h.1.2 _ hm
    rw [getP_nI hP (by omega), nI_clamp (by omega), nI_clamp (by omega)]
    by_cases hc2 : 0 < nI j ∧ nI j < nI P.2.1.length - 1
    · rw [cif_t hc2]
      by_cases hc3 : S.1.2.2.1.2.2 < S.1.2.2.1.2.1
      · rw [cif_t hc3]
        have hs := h.1.set (i := i) (P' := takeP P j) (ok_take (h.1.1.1 _ hm).up) (er_len h8)
        exact h.w ⟨⟨hs.1.1, hs.1.2.1, hs.1.2.2⟩, hs.2⟩
      · rw [cif_f hc3]; exact h.up
    · rw [cif_f hc2]; exact h.up
  · rw [cif_f hc]; exact h.up
theorem lastC_ok {day : Nat} (h : okPr k day P) (hn : ¬ P.2.1.length = 0) : okCo (lastC P) := by
  unfold lastC
  rw [List.getElem?_eq_getElem (by omega)]
  exact h.2.2.2.1 _ (List.getElem_mem _)
theorem setLast_ok {day : Nat} {co : Coat} (h : okPr k day P) (hc : okCo co) : okPr k day (setLast P co) := by
  obtain ⟨h1, h2, h3, h4, h5⟩ := h
  refine ⟨h1, h2, h3, fun c hm => ?_, h5⟩
  rcases List.mem_or_eq_of_mem_set hm with q | rfl
  · exact h4 c q
  · exact hc
theorem setLast_l8 {co : Coat} (h : P.2.1.length ≤ 8) : (setLast P co).2.1.length ≤ 8 := by
  show (P.2.1.set _ _).length ≤ 8
  rw [List.length_set]
  exact h
theorem okW.set2 {i : Nat} (h : okW (k + 1) W) (hP : okPr (k + 1) W.2.2.2.1 P') (h8 : P'.2.1.length ≤ 8) : okW (k + 1) (W.1.set i P', W.2) := by
  refine ⟨⟨fun P hP' => ?_, h.1.2.1, ?_⟩, fun P hP' => ?_⟩
  · rcases List.mem_or_eq_of_mem_set hP' with q | rfl
    · exact h.1.1 P q
    · exact hP
  · show (W.1.set i P').length ≤ 5
    rw [List.length_set]
    exact h.1.2.2
  · rcases List.mem_or_eq_of_mem_set hP' with q | rfl
    · exact h.2 P q
    · exact h8
theorem ok_ring (h : okS k S) (a b c : Int32) : okS (k + 1) (sp_ring S a b c).2 := by
  unfold sp_ring
  by_cases hc : isPn S.1.1 a ∧ isPn S.1.1 b ∧ ¬ a = b ∧ (c = -1 ∨ (isPn S.1.1 c ∧ ¬ a = c ∧ ¬ b = c))
  · rw [cif_t hc]
    have h5 := h.1.1.2.2
    have ma := getP_mem hc.1 h5
    have mb := getP_mem hc.2.1 h5
    have oa := (h.1.1.1 _ ma).up
    have ob := (h.1.1.1 _ mb).up
    by_cases hc1 : c = -1
    · rw [if_pos hc1]
      unfold ring2
      split
      · exact h.up
      · rename_i hz
        split
        · exact h.up
        · have la := lastC_ok oa (fun q => hz (Or.inl q))
          have lb := lastC_ok ob (fun q => hz (Or.inr q))
          have s1 := h.1.set (i := a.toNatClampNeg) (setLast_ok oa lb) (setLast_l8 (h.1.2 _ ma))
          have s2 := s1.set2 (i := b.toNatClampNeg) (setLast_ok ob la) (setLast_l8 (h.1.2 _ mb))
          exact h.w s2
    · rw [if_neg hc1]
      have hcp : isPn S.1.1 c := by
        rcases hc.2.2.2 with q | q
        · exact absurd q hc1
        · exact q.1
      have mc := getP_mem hcp h5
      have oc := (h.1.1.1 _ mc).up
      unfold ring3
      split
      · exact h.up
      · rename_i hz
        split
        · exact h.up
        · have la := lastC_ok oa (fun q => hz (Or.inl q))
          have lb := lastC_ok ob (fun q => hz (Or.inr (Or.inl q)))
          have lc := lastC_ok oc (fun q => hz (Or.inr (Or.inr q)))
          have s1 := h.1.set (i := a.toNatClampNeg) (setLast_ok oa lc) (setLast_l8 (h.1.2 _ ma))
          have s2 := s1.set2 (i := b.toNatClampNeg) (setLast_ok ob la) (setLast_l8 (h.1.2 _ mb))
          have s3 := s2.set2 (i := c.toNatClampNeg) (setLast_ok oc lb) (setLast_l8 (h.1.2 _ mc))
          exact h.w s3
  · rw [cif_f hc]; exact h.up
theorem ok_ware (h : okS k S) (a t : Int32) : okS (k + 1) (sp_ware S a t).2 := by
  unfold sp_ware
  by_cases hc : inR a 1 9999 ∧ inR t 1 9
  · rw [cif_t hc]
    split
    · exact h.up
    · exact h.w ⟨⟨h.1.up.1.1, h.1.1.2.1, h.1.1.2.2⟩, h.1.2⟩
  · rw [cif_f hc]; exact h.up
theorem ok_image (h : okS k S) : okS (k + 1) (sp_image S).2 := ⟨h.1.up, fun V hV => by cases hV; exact h.1.up, h.2.2⟩
theorem ok_restore (h : okS k S) : okS (k + 1) (sp_restore S).2 := by
  unfold sp_restore
  cases hI : S.2.1 with
  | none => exact h.up
  | some V => exact h.w (h.2.1 V hI).up
theorem ok_setSh {j : Nat} {T : Sht} (h : okS k S) : okS (k + 1) (setSh S j T) := ⟨h.1.up, fun V hV => (h.2.1 V hV).up, h.2.2⟩
theorem ok_sheet (h : okS k S) (s lane n : Int32) : okS (k + 1) (sp_sheet S s lane n).2 := by
  unfold sp_sheet
  by_cases hc : inR s 0 3 ∧ inR lane 0 2 ∧ n ≤ 24
  · rw [cif_t hc]
    split
    · exact h.up
    · exact ok_setSh h
  · rw [cif_f hc]; exact h.up
theorem ok_drop (h : okS k S) (s : Int32) : okS (k + 1) (sp_drop S s).2 := by
  unfold sp_drop
  by_cases hc : inR s 0 3
  · rw [cif_t hc]
    split
    · exact h.up
    · exact ok_setSh h
  · rw [cif_f hc]; exact h.up
theorem ok_item (h : okS k S) (s lane i v : Int32) : okS (k + 1) (sp_item S s lane i v).2 := by
  unfold sp_item
  by_cases hc : inR s 0 3 ∧ inR lane 0 2
  · rw [cif_t hc]
    split
    · exact ok_setSh h
    · exact h.up
  · rw [cif_f hc]; exact h.up
theorem ok_copy (h : okS k S) (a i b j n : Int32) : okS (k + 1) (sp_copy S a i b j n).2 := by
  unfold sp_copy
  by_cases hc : inR a 0 3 ∧ inR b 0 3
  · rw [cif_t hc]
    generalize S.2.2.2 a.toNatClampNeg = T1
    generalize S.2.2.2 b.toNatClampNeg = T2
    match T1, T2 with
    | some (l, L, f), some (l2, L2, f2) =>
      show okS (k + 1) (cpyS S i b j n (some (l, L, f)) (some (l2, L2, f2))).2
      unfold cpyS
      dsimp only
      split
      · by_cases hi : inS L i n ∧ inS L2 j n
        · rw [cif_t hi]; exact ok_setSh h
        · rw [cif_f hi]; exact h.up
      · exact h.up
    | none, T2 => exact h.up
    | some _, none => exact h.up
  · rw [cif_f hc]; exact h.up
theorem ok_of (h : okS k S) (p w : Int32) : okS (k + 1) (sp_of S p w).2 := by
  unfold sp_of
  by_cases hc : isPn S.1.1 p
  · rw [cif_t hc]; exact h.up
  · rw [cif_f hc]; exact h.up
theorem ok_coat (h : okS k S) (p c w : Int32) : okS (k + 1) (sp_coat S p c w).2 := by
  unfold sp_coat
  by_cases hc : isCt S.1.1 p c
  · rw [cif_t hc]; exact h.up
  · rw [cif_f hc]; exact h.up
theorem ok_count (h : okS k S) (w : Int32) : okS (k + 1) (sp_count S w).2 := h.up
theorem ok_rings (h : okS k S) (i : Int32) : okS (k + 1) (sp_rings S i).2 := by
  unfold sp_rings
  by_cases hc : inR i (-1) 2
  · rw [cif_t hc]; exact h.up
  · rw [cif_f hc]; exact h.up
theorem ok_owed (h : okS k S) (l : Int32) : okS (k + 1) (sp_owed S l).2 := by
  unfold sp_owed
  by_cases hc : inR l 0 4
  · rw [cif_t hc]; exact h.up
  · rw [cif_f hc]; exact h.up
theorem ok_free (h : okS k S) (p w : Int32) : okS (k + 1) (sp_free S p w).2 := by
  unfold sp_free
  by_cases hc : isPn S.1.1 p ∧ inR w 0 7
  · rw [cif_t hc]
    split <;> exact h.up
  · rw [cif_f hc]; exact h.up
theorem ok_saves (h : okS k S) (p c : Int32) : okS (k + 1) (sp_saves S p c).2 := by
  unfold sp_saves
  by_cases hc : isCt S.1.1 p c
  · rw [cif_t hc]
    split
    · exact h.up
    · by_cases hc2 : 0 < c ∧ c < nI (getP S.1.1 p).2.1.length - 1
      · rw [cif_t hc2]; exact h.up
      · rw [cif_f hc2]; exact h.up
  · rw [cif_f hc]; exact h.up
theorem ok_bears (h : okS k S) (p : Int32) : okS (k + 1) (sp_bears S p).2 := by
  unfold sp_bears
  by_cases hc : isPn S.1.1 p
  · rw [cif_t hc]; exact h.up
  · rw [cif_f hc]; exact h.up
theorem ok_under (h : okS k S) (w th am wh : Int32) : okS (k + 1) (sp_under S w th am wh).2 := by
  unfold sp_under
  by_cases hc : inR w 0 (nI S.1.2.2.2.2.length - 1) ∧ inR th 1 99 ∧ inR am 1 99999 ∧ inR wh 0 1
  · rw [cif_t hc]; exact h.up
  · rw [cif_f hc]; exact h.up
theorem ok_judged (h : okS k S) (s lane i n : Int32) : okS (k + 1) (sp_judged S s lane i n).2 := by
  unfold sp_judged
  by_cases hc : inR s 0 3 ∧ inR lane 0 2 ∧ inR n 1 8
  · rw [cif_t hc]
    split <;> exact h.up
  · rw [cif_f hc]; exact h.up
theorem okS.len (h : okS k S) : lenW S.1 := fun P hP co hco => ((h.1.1.1 P hP).2.2.2.1 co hco).1
end WF
