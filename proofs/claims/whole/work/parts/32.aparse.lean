/-! reading depends on the bytes alone -/
theorem skF_congr {f g : Nat → Int32} : ∀ k p, (∀ i, i < p + k → f i = g i) → skF f k p = skF g k p
  | 0, p, _ => rfl
  | k + 1, p, h => by
    unfold skF
    rw [h p (by omega), skF_congr k (p + 1) (fun i hi => h i (by omega))]
theorem skB_congr {f g : Nat → Int32} {n p : Nat} (hp : p ≤ n) (h : ∀ i, i < n → f i = g i) : skB f n p = skB g n p := skF_congr _ _ (fun i hi => h i (by omega))
theorem nbI_congr {f g : Nat → Int32} {n p : Nat} (h : ∀ i, i < n → f i = g i) : nbI f n p = nbI g n p := by
  unfold nbI
  split
  · exact h p (by assumption)
  · rfl
theorem dgF_congr {f g : Nat → Int32} : ∀ k p v, (∀ i, i < p + k → f i = g i) → dgF f k p v = dgF g k p v
  | 0, p, v, _ => rfl
  | k + 1, p, v, h => by
    unfold dgF
    rw [h p (by omega), dgF_congr k (p + 1) _ (fun i hi => h i (by omega))]
theorem numS_congr {f g : Nat → Int32} {n p : Nat} {lo hi : Int32} (hp : p ≤ n) (h : ∀ i, i < n → f i = g i) : numS f n p lo hi = numS g n p lo hi := by
  have h1 := skB_le (f := g) hp
  unfold numS
  dsimp only
  rw [skB_congr hp h, dgF_congr _ _ _ (fun i hi => h i (by omega))]
theorem skS_congr {f g : Nat → Int32} {n p : Nat} {c : Int32} (hp : p ≤ n) (h : ∀ i, i < n → f i = g i) : skS f n p c = skS g n p c := by
  unfold skS
  dsimp only
  rw [skB_congr hp h, nbI_congr h]
theorem digS_congr {f g : Nat → Int32} {n p : Nat} (hp : p ≤ n) (h : ∀ i, i < n → f i = g i) : digS f n p = digS g n p := by
  unfold digS
  dsimp only
  rw [skB_congr hp h, nbI_congr h]
set_option maxHeartbeats 4000000 in
theorem coatS_congr {f g : Nat → Int32} {n p : Nat} (hp : p ≤ n) (h : ∀ i, i < n → f i = g i) : coatS f n p = coatS g n p := by
  have h0 := skB_le (f := g) hp
  unfold coatS
  dsimp only
  rw [skB_congr hp h, nbI_congr h]
  split
  · rename_i hz
    have hlt : skB g n p < n := Classical.byContradiction fun hh => by
      have : nbI g n (skB g n p) = -1 := if_neg hh
      rw [this] at hz
      exact absurd hz.1 (by decide)
    rw [numS_congr (by omega) h]
    have h1 := numS_le (f := g) (n := n) (p := skB g n p + 1) (lo := 1) (hi := 9999) (by omega)
    generalize numS g n (skB g n p + 1) 1 9999 = N1 at h1
    obtain ⟨p2, o2⟩ := N1
    cases o2 with
    | none => rfl
    | some a =>
      dsimp only at h1 ⊢
      have h2 := skS_le (f := g) (n := n) (p := p2) (c := 114) h1 (by decide)
      rw [skS_congr h1 h, numS_congr h2 h]
      have h3 : (opS (skS g n p2 114).2 (numS g n (skS g n p2 114).1 0 20) (skS g n p2 114).1 0).1 ≤ n := by
        unfold opS
        split
        · exact numS_le h2
        · exact h2
      generalize opS (skS g n p2 114).2 (numS g n (skS g n p2 114).1 0 20) (skS g n p2 114).1 0 = N2 at h3
      obtain ⟨p4, o4⟩ := N2
      cases o4 with
      | none => rfl
      | some r =>
        dsimp only at h3 ⊢
        have h4 := skS_le (f := g) (n := n) (p := p4) (c := 116) h3 (by decide)
        rw [skS_congr h3 h, digS_congr h4 h]
  · rfl
theorem rdS_congr0 {f g : Nat → Int32} {n : Nat} (h : ∀ i, i < n → f i = g i) : ∀ k p acc, p ≤ n → rdS f n k p acc = rdS g n k p acc
  | 0, p, acc, _ => rfl
  | k + 1, p, acc, hp => by
    have h1 := coatS_le (f := g) hp
    unfold rdS
    rw [coatS_congr hp h]
    generalize coatS g n p = C1 at h1
    obtain ⟨p', o'⟩ := C1
    cases o' with
    | none => rfl
    | some co =>
      dsimp only at h1 ⊢
      have h2 := skB_le (f := g) h1
      have h3 := skS_le (f := g) (n := n) (p := skB g n p') (c := 59) h2.2 (by decide)
      rw [skB_congr h1 h, skS_congr h2.2 h]
      generalize skS g n (skB g n p') 59 = S1 at h3
      obtain ⟨p3, b3⟩ := S1
      cases b3 with
      | false => rfl
      | true =>
        dsimp only at h3 ⊢
        rw [rdS_congr0 h k p3 (acc ++ [co]) h3]
theorem rdS_congr {f g : Nat → Int32} {n k : Nat} (hok : okB g n) (h : ∀ i, i < n → f i = g i) : rdS f n k 0 [] = rdS g n k 0 [] := rdS_congr0 h k 0 [] (by omega)
theorem rdS_le {f : Nat → Int32} {n : Nat} : ∀ {k p : Nat} {acc : List Coat} {pl0 : Nat}, p ≤ n → rdS f n k p acc = .inl pl0 → pl0 ≤ n
  | 0, p, acc, pl0, hp, h => by
    unfold rdS at h
    cases h
    exact hp
  | k + 1, p, acc, pl0, hp, h => by
    have h1 := coatS_le (f := f) hp
    unfold rdS at h
    generalize coatS f n p = C1 at h1 h
    obtain ⟨p', o'⟩ := C1
    cases o' with
    | none => cases h; exact h1
    | some co =>
      dsimp only at h1 h
      have h2 := skB_le (f := f) h1
      have h3 := skS_le (f := f) (n := n) (p := skB f n p') (c := 59) h2.2 (by decide)
      split at h
      · cases h
      · split at h
        · cases h; exact h2.2
        · generalize skS f n (skB f n p') 59 = S1 at h3 h
          obtain ⟨p3, b3⟩ := S1
          cases b3 with
          | false => cases h; exact h3
          | true => exact rdS_le h3 h
