/-! ===== all orders, one behind the other ===== -/
def lf (l : List Nat) (i : Nat) : Nat := l.getD i 0
def swp (O : Nat → Nat) (a b : Nat) : Nat → Nat := fun i => if i = b then O a else if i = a then O b else O i
def tK (O : Nat → Nat) : Nat → Option Nat
  | 0 => none
  | k + 1 => if O (k + 1) < O k then tK O k else some k
def tJ (O : Nat → Nat) (v : Nat) : Nat → Nat
  | 0 => 0
  | j + 1 => if O (j + 1) < v then tJ O v j else j + 1
def rvF : Nat → (Nat → Nat) → Nat → Nat → Nat → Nat
  | 0, O, _, _ => O
  | f + 1, O, a, b => if a < b then rvF f (swp O a b) (a + 1) (b - 1) else O
def nxt (O : Nat → Nat) (n k : Nat) : Nat → Nat := rvF 6 (swp O k (tJ O (O k) (n - 1))) (k + 1) (n - 1)
def turnsL (n : Nat) (l : List Nat) : Option (List Nat) := match tK (lf l) (n - 1) with
  | none => none
  | some k => some ((List.range n).map (nxt (lf l) n k))
def allO : Nat → Nat → List (List Nat)
  | 0, _ => [[]]
  | k + 1, m => ((List.range 6).filter (fun c => m.testBit c)).flatMap (fun c => (allO k (m - 2 ^ c)).map (fun o => c :: o))
def chkO (n : Nat) : List Nat → List (List Nat) → Bool
  | o, [] => turnsL n o == none
  | o, o' :: l => (turnsL n o == some o') && chkO n o' l
def rnk (m c : Nat) : Nat := ((List.range c).filter (fun e => m.testBit e)).length
def cntL (pre : List Nat) (c : Nat) : Nat := (pre.filter (fun e => decide (e < c))).length
def okO (n : Nat) : Nat → List Nat → List Nat → Bool
  | _, _, [] => true
  | m, pre, c :: o => decide (c < n) && (m.testBit c && (decide (cntL pre c ≤ c) && ((rnk m c == c - cntL pre c) && okO n (m - 2 ^ c) (pre ++ [c]) o)))
def lawB (z n : Nat) (O : Nat → Nat) (k : Nat) : Bool := match z with
  | 0 => O k == n - 1 - k
  | 1 => O k == k
  | _ => decide (0 < O k) || k == n - 1
def lawL (z n : Nat) (l : List Nat) : Bool := (List.range n).all (lawB z n (lf l))
def offZ (off : Int32) : Nat := if off = 0 then 0 else if off = 1 then 1 else 2
def fstO (n : Nat) (l : List (List Nat)) : Bool := match l with
  | [] => false
  | o :: l => (o == List.range n) && chkO n o l
set_option maxRecDepth 100000 in
theorem all_chain : ∀ n, n ≤ 6 → fstO n (allO n (2 ^ n - 1)) = true := by decide +kernel
set_option maxRecDepth 100000 in
theorem all_ok : ∀ n, n ≤ 6 → (allO n (2 ^ n - 1)).all (fun o => (o.length == n) && okO n (2 ^ n - 1) [] o) = true := by decide +kernel
set_option maxRecDepth 100000 in
theorem comp_0 : ∀ n, n ≤ 6 → comp 0 n (2 ^ n - 1) = (allO n (2 ^ n - 1)).filter (lawL 0 n) := by decide +kernel
set_option maxRecDepth 100000 in
theorem comp_1 : ∀ n, n ≤ 6 → comp 1 n (2 ^ n - 1) = (allO n (2 ^ n - 1)).filter (lawL 1 n) := by decide +kernel
set_option maxRecDepth 100000 in
theorem comp_2 : ∀ n, n ≤ 6 → comp 2 n (2 ^ n - 1) = (allO n (2 ^ n - 1)).filter (lawL 2 n) := by decide +kernel
theorem comp_ne {off : Int32} (h0 : ¬ off = 0) (h1 : ¬ off = 1) : ∀ k m, comp off k m = comp 2 k m
  | 0, _ => rfl
  | k + 1, m => by
    have e : nexts off m = nexts 2 m := by
      unfold nexts
      congr 1
      funext c
      unfold mayN
      rw [if_neg h0, if_neg h1, if_neg (by decide), if_neg (by decide)]
    show (nexts off m).flatMap (fun c => (comp off k (m - 2 ^ c)).map (fun o => c :: o)) = (nexts 2 m).flatMap (fun c => (comp 2 k (m - 2 ^ c)).map (fun o => c :: o))
    rw [e]
    congr 1
    funext c
    rw [comp_ne h0 h1 k]
theorem comp_eq (off : Int32) {n : Nat} (hn : n ≤ 6) : comp off n (2 ^ n - 1) = (allO n (2 ^ n - 1)).filter (lawL (offZ off) n) := by
  unfold offZ
  by_cases h0 : off = 0
  · rw [if_pos h0, h0]; exact comp_0 n hn
  · by_cases h1 : off = 1
    · rw [if_neg h0, if_pos h1, h1]; exact comp_1 n hn
    · rw [if_neg h0, if_neg h1, comp_ne h0 h1]; exact comp_2 n hn
/-! ===== a plan step by step ===== -/
section SIMS
variable {r t : Nat → Int32} {inc : Int32} {n m c day : Nat} {o : List Nat} {p pd : Int32} {A : Nat → Int32}
theorem sim_pay (h : ¬ p < A c) : sim r t inc n (c :: o) m day p A pd = sim r t inc n o (m - 2 ^ c) day (p - A c) A (pd + A c) := by
  have hw : waitU r t inc n m c (360 - day) day p A = some (day, p, A) := by
    cases 360 - day with
    | zero => unfold waitU; rw [if_neg h]
    | succ k => unfold waitU; rw [if_neg h]
  show (match waitU r t inc n m c (360 - day) day p A with | none => none | some (d', p', A') => sim r t inc n o (m - 2 ^ c) d' (p' - A' c) A' (pd + A' c)) = _
  rw [hw]
theorem sim_wait (h : p < A c) (hd : day < 360) : sim r t inc n (c :: o) m day p A pd = sim r t inc n (c :: o) m (day + 1) (purseI p inc (taxN t n m)) (growN r n m A) pd := by
  have hw : waitU r t inc n m c (360 - day) day p A = waitU r t inc n m c (360 - (day + 1)) (day + 1) (purseI p inc (taxN t n m)) (growN r n m A) := by
    obtain ⟨k, hk⟩ : ∃ k, 360 - day = k + 1 := ⟨360 - day - 1, by omega⟩
    rw [hk, show 360 - (day + 1) = k by omega]
    exact if_pos h
  show (match waitU r t inc n m c (360 - day) day p A with | none => none | some (d', p', A') => sim r t inc n o (m - 2 ^ c) d' (p' - A' c) A' (pd + A' c)) = (match waitU r t inc n m c (360 - (day + 1)) (day + 1) (purseI p inc (taxN t n m)) (growN r n m A) with | none => none | some (d', p', A') => sim r t inc n o (m - 2 ^ c) d' (p' - A' c) A' (pd + A' c))
  rw [hw]
theorem sim_none (h : p < A c) : sim r t inc n (c :: o) m 360 p A pd = none := by
  have hw : waitU r t inc n m c (360 - 360) 360 p A = none := if_pos h
  show (match waitU r t inc n m c (360 - 360) 360 p A with | none => none | some (d', p', A') => sim r t inc n o (m - 2 ^ c) d' (p' - A' c) A' (pd + A' c)) = _
  rw [hw]
end SIMS
/-! ===== one who has taken some off ===== -/
def csO (P : Prs) (c : Nat) : Coat := (P.2.1[c]?).getD (0, 0, 0, 0)
def bitsL (n m : Nat) : List Nat := (List.range n).filter (fun c => m.testBit c)
def remC (P : Prs) (m : Nat) (A : Nat → Int32) : List Coat := (bitsL P.2.1.length m).map (fun c => ((csO P c).1, A c, (csO P c).2.2.1, (csO P c).2.2.2))
def stP (P : Prs) (m : Nat) (p : Int32) (A : Nat → Int32) : Prs := ((p, P.1.2), remC P m A, P.2.2)
def bfB (n m c : Nat) : Bool := !(m.testBit c) || (((bitsL n m)[rnk m c]? == some c) && (((bitsL n m).eraseIdx (rnk m c) == bitsL n (m - 2 ^ c)) && decide (m - 2 ^ c < 64)))
theorem bits_b : ∀ n, n ≤ 6 → ∀ m, m < 64 → ∀ c, c < n → bfB n m c = true := by decide +kernel
theorem bits_facts (n : Nat) (hn : n ≤ 6) (m : Nat) (hm : m < 64) (c : Nat) (hc : c < n) (hb : m.testBit c = true) : (bitsL n m)[rnk m c]? = some c ∧ (bitsL n m).eraseIdx (rnk m c) = bitsL n (m - 2 ^ c) ∧ m - 2 ^ c < 64 := by
  have h := bits_b n hn m hm c hc
  unfold bfB at h
  simp only [hb, Bool.not_true, Bool.false_or, Bool.and_eq_true, beq_iff_eq, decide_eq_true_eq] at h
  exact h
theorem bits_full : ∀ n, n ≤ 6 → bitsL n (2 ^ n - 1) = List.range n ∧ 2 ^ n - 1 < 64 := by decide +kernel
theorem bits_le : ∀ n, n ≤ 6 → ∀ m, m < 64 → (bitsL n m).length ≤ 6 := by decide +kernel
theorem st_full {P : Prs} (h6 : P.2.1.length ≤ 6) : stP P (2 ^ P.2.1.length - 1) P.1.1 (aOf P) = P := by
  have e : remC P (2 ^ P.2.1.length - 1) (aOf P) = P.2.1 := by
    unfold remC
    rw [(bits_full _ h6).1]
    apply List.ext_getElem?
    intro i
    rw [List.getElem?_map]
    by_cases hi : i < P.2.1.length
    · rw [List.getElem?_range hi, List.getElem?_eq_getElem hi]
      simp only [Option.map_some, csO, aOf]
      rw [List.getElem?_eq_getElem hi]
      rfl
    · rw [List.getElem?_eq_none (by simpa using hi), List.getElem?_eq_none (by omega)]
      rfl
  unfold stP
  rw [e]
theorem map_erase {α β : Type} (f : α → β) : ∀ (l : List α) (i : Nat), (l.map f).eraseIdx i = (l.eraseIdx i).map f
  | [], _ => rfl
  | _ :: _, 0 => rfl
  | a :: l, i + 1 => by
    show f a :: (l.map f).eraseIdx i = f a :: (l.eraseIdx i).map f
    rw [map_erase f l i]
section STP
variable {P : Prs} {m c : Nat} {p : Int32} {A : Nat → Int32}
theorem st_take (h6 : P.2.1.length ≤ 6) (hm : m < 64) (hc : c < P.2.1.length) (hb : m.testBit c = true) : takeP (stP P m p A) (rnk m c) = stP P (m - 2 ^ c) p A := by
  unfold takeP stP remC
  dsimp only
  rw [map_erase, (bits_facts _ h6 m hm c hc hb).2.1]
theorem st_get (h6 : P.2.1.length ≤ 6) (hm : m < 64) (hc : c < P.2.1.length) (hb : m.testBit c = true) : (stP P m p A).2.1[rnk m c]? = some ((csO P c).1, A c, (csO P c).2.2.1, (csO P c).2.2.2) := by
  unfold stP remC
  dsimp only
  rw [List.getElem?_map, (bits_facts _ h6 m hm c hc hb).1]
  rfl
theorem st_len (h6 : P.2.1.length ≤ 6) (hm : m < 64) : (stP P m p A).2.1.length ≤ 6 := by
  unfold stP remC
  dsimp only
  rw [List.length_map]
  exact bits_le _ h6 m hm
theorem sumL_app (l : List Int32) (a : Int32) : sumL (l ++ [a]) = sumL l + a := by
  unfold sumL
  rw [List.foldl_append]
  rfl
theorem cond_sum (t : Nat → Int32) (hm : m < 64) : ∀ k, k ≤ 6 → condSum (nI m) t k = sumL ((bitsL k m).map t)
  | 0, _ => rfl
  | k + 1, hk => by
    have ih := cond_sum t hm k (by omega)
    have hb := bit_all m hm k (by omega)
    show (if (nI m >>> (nI k &&& 31)) &&& 1 = 0 then condSum (nI m) t k else condSum (nI m) t k + t k) = _
    have e : bitsL (k + 1) m = bitsL k m ++ (if m.testBit k = true then [k] else []) := by
      unfold bitsL
      rw [List.range_succ, List.filter_append]
      congr 1
      cases hh : m.testBit k <;> simp [hh]
    rw [e]
    by_cases hbk : m.testBit k = true
    · rw [if_pos hbk, if_neg (fun q => by rw [hb.mp q] at hbk; cases hbk), List.map_append, List.map_cons, List.map_nil, sumL_app, ih]
    · rw [if_neg hbk, if_pos (hb.mpr (by simpa using hbk)), List.append_nil, ih]
theorem st_rest (h6 : P.2.1.length ≤ 6) (hm : m < 64) : restP (stP P m p A) = stP P m (purseI p P.1.2.1 (taxN (tOf P) P.2.1.length m)) (growN (rOf P) P.2.1.length m A) := by
  have tax : taxOf (stP P m p A) = taxN (tOf P) P.2.1.length m := by
    unfold taxN
    rw [cond_sum _ hm _ h6]
    unfold taxOf stP remC
    dsimp only
    rw [List.map_map]
    rfl
  have grow : (remC P m A).map growC = remC P m (growN (rOf P) P.2.1.length m A) := by
    unfold remC
    rw [List.map_map]
    apply List.map_congr_left
    intro c hc
    unfold bitsL at hc
    obtain ⟨h1, h2⟩ := List.mem_filter.mp hc
    have h1 := List.mem_range.mp h1
    have e : growN (rOf P) P.2.1.length m A c = growI (A c) (rOf P c) := if_pos ⟨h1, h2⟩
    rw [e]
    rfl
  show ((purseI p P.1.2.1 (taxOf (stP P m p A)), P.1.2.1, P.1.2.2.1, P.1.2.2.2), (remC P m A).map growC, P.2.2) = _
  rw [tax, grow]
  rfl
end STP
theorem all_mem {n : Nat} (hn : n ≤ 6) {o : List Nat} (ho : o ∈ allO n (2 ^ n - 1)) : o.length = n ∧ okO n (2 ^ n - 1) [] o = true := by
  have h := List.all_eq_true.mp (all_ok n hn) o ho
  simp only [Bool.and_eq_true, beq_iff_eq] at h
  exact h
theorem okO_cons {n m c : Nat} {pre o : List Nat} (h : okO n m pre (c :: o) = true) : c < n ∧ m.testBit c = true ∧ cntL pre c ≤ c ∧ rnk m c = c - cntL pre c ∧ okO n (m - 2 ^ c) (pre ++ [c]) o = true := by
  unfold okO at h
  simp only [Bool.and_eq_true, beq_iff_eq, decide_eq_true_eq] at h
  exact h
theorem RepQ.sft {N N' : Nat → Int32} {p p' : Nat} {P : Prs} (h : RepQ N p P) (hf : ∀ i, i < 40 → N' (40 * p' + i) = N (40 * p + i)) : RepQ N' p' P := by
  obtain ⟨h1, h2, h3, h4, h5, h6, h7, h8⟩ := h
  refine ⟨(hf 0 (by omega)).trans h1, (hf 1 (by omega)).trans h2, (hf 2 (by omega)).trans h3, (hf 3 (by omega)).trans h4, h5, (hf 4 (by omega)).trans h6, (hf 5 (by omega)).trans h7, fun c co hc => ?_⟩
  have hlt := (List.getElem?_eq_some_iff.mp hc).1
  obtain ⟨e1, e2, e3, e4⟩ := h8 c co hc
  refine ⟨?_, ?_, ?_, ?_⟩
  · have := hf (8 + 4 * c) (by omega)
    rw [← Nat.add_assoc, ← Nat.add_assoc] at this
    exact this.trans e1
  · have := hf (8 + 4 * c + 1) (by omega)
    rw [show 40 * p' + (8 + 4 * c + 1) = 40 * p' + 8 + 4 * c + 1 by omega, show 40 * p + (8 + 4 * c + 1) = 40 * p + 8 + 4 * c + 1 by omega] at this
    exact this.trans e2
  · have := hf (8 + 4 * c + 2) (by omega)
    rw [show 40 * p' + (8 + 4 * c + 2) = 40 * p' + 8 + 4 * c + 2 by omega, show 40 * p + (8 + 4 * c + 2) = 40 * p + 8 + 4 * c + 2 by omega] at this
    exact this.trans e3
  · have := hf (8 + 4 * c + 3) (by omega)
    rw [show 40 * p' + (8 + 4 * c + 3) = 40 * p' + 8 + 4 * c + 3 by omega, show 40 * p + (8 + 4 * c + 3) = 40 * p + 8 + 4 * c + 3 by omega] at this
    exact this.trans e4
