/-! ===== numbers within bounds ===== -/
theorem ti_add {a b : Int32} (h1 : -2 ^ 31 ≤ a.toInt + b.toInt) (h2 : a.toInt + b.toInt < 2 ^ 31) : (a + b).toInt = a.toInt + b.toInt := by
  rw [Int32.toInt_add]
  exact Int.bmod_eq_of_le (by omega) (by omega)
theorem ti_sub {a b : Int32} (h1 : -2 ^ 31 ≤ a.toInt - b.toInt) (h2 : a.toInt - b.toInt < 2 ^ 31) : (a - b).toInt = a.toInt - b.toInt := by
  rw [Int32.toInt_sub]
  exact Int.bmod_eq_of_le (by omega) (by omega)
theorem ti_mul {a b : Int32} (h1 : -2 ^ 31 ≤ a.toInt * b.toInt) (h2 : a.toInt * b.toInt < 2 ^ 31) : (a * b).toInt = a.toInt * b.toInt := by
  rw [Int32.toInt_mul]
  exact Int.bmod_eq_of_le (by omega) (by omega)
theorem ti_min (x y : Int32) : (minI x y).toInt = min x.toInt y.toInt := by
  unfold minI
  split
  · rename_i h
    have := Int32.lt_iff_toInt_lt.mp h
    omega
  · rename_i h
    have : ¬ y.toInt < x.toInt := fun q => h (Int32.lt_iff_toInt_lt.mpr q)
    omega
theorem ti_max (x y : Int32) : (maxI x y).toInt = max x.toInt y.toInt := by
  unfold maxI
  split
  · rename_i h
    have := Int32.lt_iff_toInt_lt.mp h
    omega
  · rename_i h
    have : ¬ x.toInt < y.toInt := fun q => h (Int32.lt_iff_toInt_lt.mpr q)
    omega
theorem ti_purse {p i t : Int32} (hp0 : 0 ≤ p.toInt) (hp1 : p.toInt ≤ 999999) (hi0 : 0 ≤ i.toInt) (hi1 : i.toInt ≤ 99) (ht0 : 0 ≤ t.toInt) (ht1 : t.toInt ≤ 1000) : (purseI p i t).toInt = min (max (p.toInt + i.toInt - t.toInt) 0) 999999 := by
  unfold purseI
  have e9 : (999999 : Int32).toInt = 999999 := rfl
  have e0 : (0 : Int32).toInt = 0 := rfl
  have h1 : (p + i).toInt = p.toInt + i.toInt := ti_add (by omega) (by omega)
  rw [ti_min, ti_max, ti_sub (by rw [h1]; omega) (by rw [h1]; omega), h1, e0, e9]
theorem ti_grow {a r : Int32} (ha0 : 0 ≤ a.toInt) (ha1 : a.toInt ≤ 999999) (hr0 : 0 ≤ r.toInt) (hr1 : r.toInt ≤ 20) : a.toInt ≤ (growI a r).toInt ∧ (growI a r).toInt ≤ 999999 := by
  unfold growI
  have e9 : (999999 : Int32).toInt = 999999 := rfl
  have hm0 : 0 ≤ a.toInt * r.toInt := Int.mul_nonneg ha0 hr0
  have hm1 : a.toInt * r.toInt ≤ 999999 * 20 := Int.mul_le_mul ha1 hr1 hr0 (by omega)
  have h1 : (a * r).toInt = a.toInt * r.toInt := ti_mul (by omega) (by omega)
  obtain ⟨j, hj, ej⟩ := nI_of (x := a * r) (fun q => by have := Int32.lt_iff_toInt_lt.mp q; rw [h1] at this; have e0 : (0 : Int32).toInt = 0 := rfl; omega)
  have hd : a * r / 100 = nI (j / 100) := by rw [ej]; exact pk_div (d := 100) hj (by decide) (by decide)
  have hjt : (j : Int) = a.toInt * r.toInt := by rw [← h1, ej, nI_toInt hj]
  have h2 : (a * r / 100).toInt = ((j / 100 : Nat) : Int) := by rw [hd, nI_toInt (by omega)]
  have h3 : (a + a * r / 100).toInt = a.toInt + ((j / 100 : Nat) : Int) := by rw [ti_add (by rw [h2]; omega) (by rw [h2]; omega), h2]
  rw [ti_min, h3, e9]
  omega
/-! ===== the best order: words ===== -/
def outN (m c : Nat) : Bool := m / 2 ^ (c + 1) == 0
def innN (m c : Nat) : Bool := m % 2 ^ c == 0
def mayN (off : Int32) (m c : Nat) : Bool := if off = 0 then outN m c else if off = 1 then innN m c else (!(innN m c) || outN m c)
/-- the coats that may be next, in their order -/
def nexts (off : Int32) (m : Nat) : List Nat := (List.range 6).filter (fun c => m.testBit c && mayN off m c)
/-- all orders of the coats of the set that the law lets, as rows in their order -/
def comp (off : Int32) : Nat → Nat → List (List Nat)
  | 0, _ => [[]]
  | k + 1, m => (nexts off m).flatMap (fun c => (comp off k (m - 2 ^ c)).map (fun o => c :: o))
def growN (r : Nat → Int32) (n m : Nat) (A : Nat → Int32) : Nat → Int32 := fun c => if c < n ∧ m.testBit c = true then growI (A c) (r c) else A c
def taxN (t : Nat → Int32) (n m : Nat) : Int32 := condSum (nI m) t n
def waitU (r t : Nat → Int32) (inc : Int32) (n m c : Nat) : Nat → Nat → Int32 → (Nat → Int32) → Option (Nat × Int32 × (Nat → Int32))
  | 0, day, p, A => if p < A c then none else some (day, p, A)
  | k + 1, day, p, A => if p < A c then waitU r t inc n m c k (day + 1) (purseI p inc (taxN t n m)) (growN r n m A) else some (day, p, A)
def sim (r t : Nat → Int32) (inc : Int32) (n : Nat) : List Nat → Nat → Nat → Int32 → (Nat → Int32) → Int32 → Option (Nat × Int32)
  | [], _, day, _, _, pd => some (day, pd)
  | c :: o, m, day, p, A, pd => match waitU r t inc n m c (360 - day) day p A with
    | none => none
    | some (d', p', A') => sim r t inc n o (m - 2 ^ c) d' (p' - A' c) A' (pd + A' c)
/-- days, paid, order -/
abbrev Bpl : Type := Nat × Int32 × List Nat
def keepB (B : Bpl) (dy : Nat) (pd : Int32) (o : List Nat) : Bpl := if dy < B.1 ∨ (dy = B.1 ∧ pd < B.2.1) then (dy, pd, o) else B
def stepB (pre : List Nat) (res : List Nat → Option (Nat × Int32)) (B : Bpl) (o : List Nat) : Bpl := match res o with
  | none => B
  | some (dy, pd) => keepB B dy pd (pre ++ o)
def foldB (pre : List Nat) (res : List Nat → Option (Nat × Int32)) (B : Bpl) (l : List (List Nat)) : Bpl := l.foldl (stepB pre res) B
theorem waitU_day (r t : Nat → Int32) (inc : Int32) (n m c : Nat) : ∀ k day p A d' p' A', waitU r t inc n m c k day p A = some (d', p', A') → day ≤ d' ∧ d' ≤ day + k ∧ ¬ p' < A' c ∧ (p < A c → day < d')
  | 0, day, p, A, d', p', A', h => by
    unfold waitU at h
    split at h
    · cases h
    · rename_i hn
      cases h
      exact ⟨Nat.le_refl _, Nat.le_refl _, hn, fun q => absurd q hn⟩
  | k + 1, day, p, A, d', p', A', h => by
    unfold waitU at h
    split at h
    · have := waitU_day r t inc n m c k _ _ _ _ _ _ h
      exact ⟨by omega, by omega, this.2.2.1, fun _ => by omega⟩
    · rename_i hn
      cases h
      exact ⟨Nat.le_refl _, by omega, hn, fun q => absurd q hn⟩
theorem sim_day (r t : Nat → Int32) (inc : Int32) (n : Nat) : ∀ o m day p A pd dy pd', day ≤ 360 → sim r t inc n o m day p A pd = some (dy, pd') → day ≤ dy ∧ dy ≤ 360
  | [], m, day, p, A, pd, dy, pd', h0, h => by
    unfold sim at h
    cases h
    exact ⟨Nat.le_refl _, h0⟩
  | c :: o, m, day, p, A, pd, dy, pd', h0, h => by
    unfold sim at h
    cases hw : waitU r t inc n m c (360 - day) day p A with
    | none => rw [hw] at h; cases h
    | some x =>
      obtain ⟨d', p', A'⟩ := x
      rw [hw] at h
      have h1 := waitU_day r t inc n m c _ _ _ _ _ _ _ hw
      have := sim_day r t inc n o _ d' _ _ _ dy pd' (by omega) h
      omega
theorem foldB_noop {pre : List Nat} {res : List Nat → Option (Nat × Int32)} {B : Bpl} {l : List (List Nat)} (h : ∀ o, o ∈ l → stepB pre res B o = B) : foldB pre res B l = B := by
  unfold foldB
  induction l with
  | nil => rfl
  | cons o l ih => rw [List.foldl_cons, h o List.mem_cons_self]; exact ih (fun o' ho' => h o' (List.mem_cons_of_mem _ ho'))
/-- bounds of what a plan starts with -/
def okD (r t : Nat → Int32) (inc : Int32) (n : Nat) : Prop := (0 ≤ inc.toInt ∧ inc.toInt ≤ 99) ∧ ∀ c, c < n → (0 ≤ (t c).toInt ∧ (t c).toInt ≤ 9) ∧ (0 ≤ (r c).toInt ∧ (r c).toInt ≤ 20)
def okA (A : Nat → Int32) (n : Nat) : Prop := ∀ c, c < n → 0 ≤ (A c).toInt ∧ (A c).toInt ≤ 999999
def okp (p : Int32) : Prop := 0 ≤ p.toInt ∧ p.toInt ≤ 999999
theorem tax_b {r t : Nat → Int32} {inc : Int32} {n : Nat} (h : okD r t inc n) (hn : n ≤ 8) (set : Int32) : ∀ k, k ≤ n → 0 ≤ (condSum set t k).toInt ∧ (condSum set t k).toInt ≤ 9 * k
  | 0, _ => ⟨(show (0 : Int) ≤ (0 : Int32).toInt by decide), (show (0 : Int32).toInt ≤ 9 * ((0 : Nat) : Int) by decide)⟩
  | k + 1, hk => by
    have ih := tax_b h hn set k (by omega)
    have ht := (h.2 k (by omega)).1
    unfold condSum
    split
    · omega
    · rw [ti_add (by omega) (by omega)]
      omega
theorem okp_purse {r t : Nat → Int32} {inc p : Int32} {n m : Nat} (h : okD r t inc n) (hn : n ≤ 8) (hp : okp p) : okp (purseI p inc (taxN t n m)) ∧ (purseI p inc (taxN t n m)).toInt ≤ p.toInt + max (inc.toInt - (taxN t n m).toInt) 0 := by
  have h1 := tax_b h hn (nI m) n (Nat.le_refl _)
  have h2 := ti_purse (p := p) (i := inc) (t := taxN t n m) hp.1 hp.2 h.1.1 h.1.2 h1.1 (by unfold taxN; omega)
  unfold okp
  have hp1 := hp.1
  have hp2 := hp.2
  have hi1 := h.1.1
  have h11 : 0 ≤ (taxN t n m).toInt := h1.1
  rw [h2]
  omega
theorem okA_grow {r t : Nat → Int32} {inc : Int32} {n m : Nat} {A : Nat → Int32} (h : okD r t inc n) (hA : okA A n) : okA (growN r n m A) n ∧ ∀ c, c < n → (A c).toInt ≤ (growN r n m A c).toInt := by
  have key : ∀ c, c < n → 0 ≤ (growN r n m A c).toInt ∧ (growN r n m A c).toInt ≤ 999999 ∧ (A c).toInt ≤ (growN r n m A c).toInt := by
    intro c hc
    have h1 := hA c hc
    unfold growN
    split
    · have h2 := ti_grow h1.1 h1.2 (h.2 c hc).2.1 (h.2 c hc).2.2
      omega
    · omega
  exact ⟨fun c hc => ⟨(key c hc).1, (key c hc).2.1⟩, fun c hc => (key c hc).2.2⟩
/-- what all the nights can't bring is not worth the wait -/
theorem wait_late {r t : Nat → Int32} {inc : Int32} {n m c : Nat} (h : okD r t inc n) (hn : n ≤ 8) (hc : c < n) : ∀ (k day : Nat) (p : Int32) (A : Nat → Int32) (L d' : Nat) (p' : Int32) (A' : Nat → Int32), okp p → okA A n → p.toInt + max (inc.toInt - (taxN t n m).toInt) 0 * ((L - day : Nat) : Int) < (A c).toInt → waitU r t inc n m c k day p A = some (d', p', A') → L < d'
  | 0, day, p, A, L, d', p', A', hp, hA, hlt, hw => by
    have h0 : 0 ≤ max (inc.toInt - (taxN t n m).toInt) 0 * ((L - day : Nat) : Int) := Int.mul_nonneg (by omega) (by omega)
    have hlt2 : p < A c := Int32.lt_iff_toInt_lt.mpr (by omega)
    unfold waitU at hw
    rw [if_pos hlt2] at hw
    cases hw
  | k + 1, day, p, A, L, d', p', A', hp, hA, hlt, hw => by
    have h0 : 0 ≤ max (inc.toInt - (taxN t n m).toInt) 0 * ((L - day : Nat) : Int) := Int.mul_nonneg (by omega) (by omega)
    have hlt2 : p < A c := Int32.lt_iff_toInt_lt.mpr (by omega)
    have hd := waitU_day r t inc n m c _ _ _ _ _ _ _ hw
    unfold waitU at hw
    rw [if_pos hlt2] at hw
    by_cases hL : L ≤ day
    · have := hd.2.2.2 hlt2
      omega
    · obtain ⟨q1, q2⟩ := okp_purse (m := m) h hn hp
      obtain ⟨g1, g2⟩ := okA_grow (m := m) h hA
      have g3 := g2 c hc
      refine wait_late h hn hc k (day + 1) _ _ L d' p' A' q1 g1 ?_ hw
      have e : ((L - day : Nat) : Int) = ((L - (day + 1) : Nat) : Int) + 1 := by omega
      rw [e, Int.mul_add, Int.mul_one] at hlt
      omega
