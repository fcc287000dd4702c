/-! ===== the tape and its reading ===== -/
def isT (sh : List Shp) (me : Mem) (t : Nat) : Prop := sh[t]? = some (.inl 4) ∧ sh[t + 1]? = some (.inr (0, 80)) ∧ gR me t 0 = some (t + 1)
theorem isT.of {sh : List Shp} {me m : Mem} {t : Nat} (h : isT sh me t) (h2 : m.2 = me.2) : isT sh m t := by
  unfold isT gR at *
  rw [h2]
  exact h
/-- byte k of w -/
def btI (w : Int64) (k : Int32) : Int32 := ((w >>> ((8 * k).toInt64 &&& 63)) &&& 255).toInt32
def prnt (w : Int64) (n : Nat) : Prop := ∀ k, k < n → 32 ≤ btI w (nI k) ∧ btI w (nI k) ≤ 126
def apM (me : Mem) (t len : Nat) (w : Int64) (n j : Nat) : Mem := (fun a b => if a = t + 1 ∧ len ≤ b ∧ b < len + j then btI w (nI (n - 1 - (b - len))) else if a = t ∧ b = 1 then nI (len + j) else me.1 a b, me.2)
def skF (f : Nat → Int32) : Nat → Nat → Nat
  | 0, p => p
  | k + 1, p => if f p = 32 then skF f k (p + 1) else p
/-- the place of the first byte that is no blank, or the end -/
def skB (f : Nat → Int32) (n p : Nat) : Nat := skF f (n - p) p
theorem skF_le (f : Nat → Int32) : ∀ k p, p ≤ skF f k p ∧ skF f k p ≤ p + k
  | 0, p => ⟨Nat.le_refl _, Nat.le_refl _⟩
  | k + 1, p => by
    unfold skF
    split
    · have := skF_le f k (p + 1)
      omega
    · omega
theorem skB_le {f : Nat → Int32} {n p : Nat} (h : p ≤ n) : p ≤ skB f n p ∧ skB f n p ≤ n := by
  have := skF_le f (n - p) p
  unfold skB
  omega
theorem skB_step {f : Nat → Int32} {n p : Nat} (h : p < n) (h2 : f p = 32) : skB f n p = skB f n (p + 1) := by
  unfold skB
  obtain ⟨k, hk⟩ : ∃ k, n - p = k + 1 := ⟨n - p - 1, by omega⟩
  rw [hk, show n - (p + 1) = k by omega]
  exact if_pos h2
theorem skB_stop {f : Nat → Int32} {n p : Nat} (h : n ≤ p ∨ ¬ f p = 32) : skB f n p = p := by
  unfold skB
  cases hk : n - p with
  | zero => rfl
  | succ k =>
    refine if_neg ?_
    rcases h with h | h
    · omega
    · exact h
def nbI (f : Nat → Int32) (n p : Nat) : Int32 := if p < n then f p else -1
def dgF (f : Nat → Int32) : Nat → Nat → Int32 → Nat × Int32
  | 0, p, v => (p, v)
  | k + 1, p, v => if 48 ≤ f p ∧ f p ≤ 57 then dgF f k (p + 1) (minI (v * 10 + f p - 48) 999999) else (p, v)
theorem dgF_le (f : Nat → Int32) : ∀ k p v, p ≤ (dgF f k p v).1 ∧ (dgF f k p v).1 ≤ p + k
  | 0, p, v => ⟨Nat.le_refl _, Nat.le_refl _⟩
  | k + 1, p, v => by
    unfold dgF
    split
    · have := dgF_le f k (p + 1) (minI (v * 10 + f p - 48) 999999)
      omega
    · dsimp only; omega
def numS (f : Nat → Int32) (n p : Nat) (lo hi : Int32) : Nat × Option Int32 :=
  let p1 := skB f n p
  let r := dgF f (n - p1) p1 0
  if p1 < r.1 ∧ lo ≤ r.2 ∧ r.2 ≤ hi then (r.1, some r.2) else (p1, none)
def skS (f : Nat → Int32) (n p : Nat) (c : Int32) : Nat × Bool :=
  let p1 := skB f n p
  if nbI f n p1 = c then (p1 + 1, true) else (p1, false)
def digS (f : Nat → Int32) (n p : Nat) : Nat × Option Int32 :=
  let p1 := skB f n p
  if 49 ≤ nbI f n p1 ∧ nbI f n p1 ≤ 57 then (p1 + 1, some (nbI f n p1 - 48)) else (p1, none)
def opS (b : Bool) (r : Nat × Option Int32) (p : Nat) (v : Int32) : Nat × Option Int32 := if b then r else (p, some v)
def coatS (f : Nat → Int32) (n p : Nat) : Nat × Option Coat :=
  let p1 := skB f n p
  let l := nbI f n p1 - 97
  if 0 ≤ l ∧ l ≤ 4 then
    match numS f n (p1 + 1) 1 9999 with
    | (p2, none) => (p2, none)
    | (p2, some a) =>
      match opS (skS f n p2 114).2 (numS f n (skS f n p2 114).1 0 20) (skS f n p2 114).1 0 with
      | (p4, none) => (p4, none)
      | (p4, some r) =>
        match opS (skS f n p4 116).2 (digS f n (skS f n p4 116).1) (skS f n p4 116).1 1 with
        | (p6, none) => (p6, none)
        | (p6, some th) => (p6, some (l, a, r, th))
  else (p1, none)
def rdS (f : Nat → Int32) (n : Nat) : Nat → Nat → List Coat → Nat ⊕ List Coat
  | 0, p, _ => .inl p
  | k + 1, p, acc => match coatS f n p with
    | (p', none) => .inl p'
    | (p', some co) => if n ≤ skB f n p' then .inr (acc ++ [co]) else if k = 0 then .inl (skB f n p') else
        match skS f n (skB f n p') 59 with
        | (p3, true) => rdS f n k p3 (acc ++ [co])
        | (p3, false) => .inl p3
/-- bytes that can't be taken for the end -/
def okB (f : Nat → Int32) (n : Nat) : Prop := ∀ i, i < n → 32 ≤ f i ∧ f i ≤ 126
theorem skS_le {f : Nat → Int32} {n p : Nat} {c : Int32} (h : p ≤ n) (hc : 0 ≤ c) : (skS f n p c).1 ≤ n := by
  have := skB_le (f := f) h
  unfold skS
  dsimp only
  split
  · rename_i hh
    have : skB f n p < n := Classical.byContradiction fun q => by
      unfold nbI at hh
      rw [if_neg q] at hh
      rw [← hh] at hc
      exact absurd hc (by decide)
    show skB f n p + 1 ≤ n
    omega
  · exact this.2
theorem numS_le {f : Nat → Int32} {n p : Nat} {lo hi : Int32} (h : p ≤ n) : (numS f n p lo hi).1 ≤ n := by
  have h1 := skB_le (f := f) h
  have h2 := dgF_le f (n - skB f n p) (skB f n p) 0
  unfold numS
  dsimp only
  split
  · show (dgF f (n - skB f n p) (skB f n p) 0).1 ≤ n
    omega
  · exact h1.2
theorem digS_le {f : Nat → Int32} {n p : Nat} (h : p ≤ n) : (digS f n p).1 ≤ n := by
  have := skB_le (f := f) h
  unfold digS
  dsimp only
  split
  · rename_i hh
    have : skB f n p < n := Classical.byContradiction fun q => by
      unfold nbI at hh
      rw [if_neg q] at hh
      exact absurd hh.1 (by decide)
    show skB f n p + 1 ≤ n
    omega
  · exact this.2
section TAPE
variable {sh : List Shp} {me : Mem} {d t n p : Nat}
set_option maxHeartbeats 4000000 in
set_option maxRecDepth 100000 in
theorem c_isPrintable (w : Int64) (hn : n ≤ 8) (hd : 1 ≤ d) : CI d mX4_isPrintable sh [.long w, .int (nI n)] me (fun x m => (x = 1 ∧ prnt w n ∨ x = 0 ∧ ¬ prnt w n) ∧ m = me) := by
  have key : ∀ fuel i, n - i < fuel → i ≤ n → prnt w i → Wa mX4_isPrintable (0, fun _ => 0) d 0 0 sh.length (PI sh (fun x m => (x = 1 ∧ prnt w n ∨ x = 0 ∧ ¬ prnt w n) ∧ m = me)) 2 [.long w, .float 0, .int (nI n), .int (nI i)] [] sh me 0 0 := by
    intro fuel
    induction fuel with
    | zero => intro i h; omega
    | succ fuel ih =>
      intro i hi hin hp
      refine ld_i3 (np := 3) dX4_isPrintable_2 rfl ?_
      refine ld_i2 (np := 4) dX4_isPrintable_3 rfl ?_
      refine wl_icmp_ge (np := 7) (tg := 36) dX4_isPrintable_4 rfl rfl (fun c_4 => ?_) (fun c_4 => ?_)
      · rw [nI_le_iff (by omega) (by omega)] at c_4
        refine wl_iconst (np := 37) (v := 1) dX4_isPrintable_36 rfl (rfl) ?_
        refine wi_ret dX4_isPrintable_37 rfl (by decide) (Nat.le_refl _) (Nat.le_refl _) ?_
        rw [show i = n by omega] at hp
        exact ⟨Or.inl ⟨rfl, hp⟩, rfl⟩
      · rw [nI_le_iff (by omega) (by omega)] at c_4
        refine ld_l0 (np := 8) dX4_isPrintable_7 rfl ?_
        refine wl_bipush (np := 10) (v := 8) dX4_isPrintable_8 rfl (by decide) ?_
        refine ld_i3 (np := 11) dX4_isPrintable_10 rfl ?_
        refine wl_imul (np := 12) dX4_isPrintable_11 rfl ?_
        refine wl_lshr (np := 13) dX4_isPrintable_12 rfl ?_
        refine wl_ldc2 (np := 16) dX4_isPrintable_13 rfl wk_X4_15 ?_
        refine wl_land (np := 17) dX4_isPrintable_16 rfl ?_
        refine wl_l2i (np := 18) dX4_isPrintable_17 rfl ?_
        refine wl_bipush (np := 20) (v := 32) dX4_isPrintable_18 rfl (by decide) ?_
        refine wl_bipush (np := 22) (v := 126) dX4_isPrintable_20 rfl (by decide) ?_
        refine ciSN_3 (np := 25) dX4_isPrintable_22 rfl lk_X4_17 (Nat.le_of_ble_eq_true rfl) (by omega) (Nat.le_refl _) (Nat.le_refl _) (c_isWithin _ _ _) (fun x_22 m_22 h_22 => ?_)
        obtain ⟨rfl, q_22⟩ := h_22
        have q_22 := q_22.symm
        subst q_22
        refine wl_if_ne (np := 28) (tg := 30) dX4_isPrintable_25 rfl rfl (fun c_25 => ?_) (fun c_25 => ?_)
        · have hz : 32 ≤ btI w (nI i) ∧ btI w (nI i) ≤ 126 := Classical.byContradiction fun q => c_25 (if_neg q)
          refine inc_3 (np := 33) (v := _ + 1) dX4_isPrintable_30 rfl rfl (by decide) rfl ?_
          refine wl_goto (tg := 2) dX4_isPrintable_33 rfl ?_
          rw [← nI_succ]
          refine ih (i + 1) (by omega) (by omega) (fun k hk => ?_)
          rcases Nat.lt_succ_iff_lt_or_eq.mp hk with h | rfl
          · exact hp k h
          · exact hz
        · have hz : ¬ (32 ≤ btI w (nI i) ∧ btI w (nI i) ≤ 126) := fun q => absurd ((if_pos q).symm.trans c_25) (by decide)
          refine wl_iconst (np := 29) (v := 0) dX4_isPrintable_28 rfl (rfl) ?_
          refine wi_ret dX4_isPrintable_29 rfl (by decide) (Nat.le_refl _) (Nat.le_refl _) ?_
          exact ⟨Or.inr ⟨rfl, fun q => hz (q i (by omega))⟩, rfl⟩
  refine CI.mk (L := [.long w, .float 0, .int (nI n), .float 0]) (by decide) (Nat.le_of_ble_eq_true rfl) rfl ?_
  refine wl_iconst (np := 1) (v := 0) dX4_isPrintable_0 rfl (rfl) ?_
  refine st_i3 (np := 2) dX4_isPrintable_1 rfl (by decide) rfl ?_
  exact key (n + 1) 0 (by omega) (by omega) (fun k h => by omega)
set_option maxHeartbeats 4000000 in
set_option maxRecDepth 100000 in
theorem c_append {len : Nat} (w : Int64) (hq : isT sh me t) (hl : gI me t 1 = nI len) (hln : len + n ≤ 80) : CV d mX4_append sh [.ref t, .long w, .int (nI n)] me (fun m => m = apM me t len w n n) := by
  obtain ⟨s0, s1, r0⟩ := hq
  have hle : ∀ j, gI (apM me t len w n j) t 1 = nI (len + j) := fun j => by
    simp only [apM, g_def]; rw [if_neg (by omega), if_pos (by refine ⟨?_, ?_⟩ <;> first | trivial | rfl)]
  have key : ∀ k j, k + j = n → Wa mX4_append (0, fun _ => 0) d 0 0 sh.length (PV sh (fun m => m = apM me t len w n n)) 5 [.ref t, .long w, .float 0, .int (nI n), .int (nI k - 1)] [] sh (apM me t len w n j) 0 0 := by
    intro k
    induction k with
    | zero =>
      intro j hj
      refine ld_i4 (np := 7) dX4_append_5 rfl ?_
      refine wl_if_lt (np := 10) (tg := 56) dX4_append_7 rfl rfl (fun c_7 => ?_) (fun c_7 => ?_)
      · refine wv_ret dX4_append_56 rfl (Nat.le_refl _) (Nat.le_refl _) ?_
        rw [show j = n by omega]
      · exact absurd (show nI 0 - 1 < 0 by decide) c_7
    | succ k ih =>
      intro j hj
      rw [nI_pred]
      refine ld_i4 (np := 7) dX4_append_5 rfl ?_
      refine wl_if_lt (np := 10) (tg := 56) dX4_append_7 rfl rfl (fun c_7 => ?_) (fun c_7 => ?_)
      · exact absurd c_7 (nI_pos (by omega))
      · refine ld_a0 (np := 11) dX4_append_10 rfl ?_
        refine wl_geti (np := 14) dX4_append_11 rfl fl_X4_21 (by decide) (by assumption) ?_
        refine wl_bipush (np := 16) (v := 80) dX4_append_14 rfl (by decide) ?_
        refine wl_icmp_ge (np := 19) (tg := 56) dX4_append_16 rfl rfl (fun c_16 => ?_) (fun c_16 => ?_)
        · rw [hle] at c_16
          exact absurd c_16 (by rw [show (80 : Int32) = nI 80 from rfl, nI_le_iff (by decide) (by omega)]; omega)
        · have hi : inA sh (t + 1) (gI (apM me t len w n j) t 1) := by rw [hle]; exact inA_n s1 (by omega) (by decide)
          refine ld_a0 (np := 20) dX4_append_19 rfl ?_
          refine wl_getr (np := 23) dX4_append_20 rfl fl_X4_9 rfl (by assumption) (by assumption) ?_
          refine ld_a0 (np := 24) dX4_append_23 rfl ?_
          refine wl_geti (np := 27) dX4_append_24 rfl fl_X4_21 (by decide) (by assumption) ?_
          refine ld_l1 (np := 28) dX4_append_27 rfl ?_
          refine wl_bipush (np := 30) (v := 8) dX4_append_28 rfl (by decide) ?_
          refine ld_i4 (np := 32) dX4_append_30 rfl ?_
          refine wl_imul (np := 33) dX4_append_32 rfl ?_
          refine wl_lshr (np := 34) dX4_append_33 rfl ?_
          refine wl_ldc2 (np := 37) dX4_append_34 rfl wk_X4_15 ?_
          refine wl_land (np := 38) dX4_append_37 rfl ?_
          refine wl_l2i (np := 39) dX4_append_38 rfl ?_
          refine wl_iastore (np := 40) dX4_append_39 rfl (hi) ?_
          refine ld_a0 (np := 41) dX4_append_40 rfl ?_
          refine wl_dup (np := 42) dX4_append_41 rfl rfl ?_
          refine wl_geti (np := 45) dX4_append_42 rfl fl_X4_21 (by decide) (by assumption) ?_
          refine wl_iconst (np := 46) (v := 1) dX4_append_45 rfl (rfl) ?_
          refine wl_iadd (np := 47) dX4_append_46 rfl ?_
          refine wl_puti (np := 50) dX4_append_47 rfl fl_X4_21 nf_4_1 rfl (by assumption) ?_
          refine inc_4 (np := 53) (v := _ + (-1)) dX4_append_50 rfl rfl (by decide) rfl ?_
          refine wl_goto (tg := 5) dX4_append_53 rfl ?_
          rw [hle, nI_clamp (by omega), gI_uI, if_neg (by omega), hle, ← nI_succ, ← Int32.sub_eq_add_neg]
          refine cast (congrArg (fun z => Wa mX4_append (0, fun _ => 0) d 0 0 sh.length (PV sh (fun m => m = apM me t len w n n)) 5 [.ref t, .long w, .float 0, .int (nI n), .int (nI k - 1)] [] sh z 0 0) ?_) (ih (j + 1) (by omega))
          apply mem_ext
          · intro a b
            simp only [gI_uI, apM, g_def, g_raw]
            have e1 : ((w >>> ((8 * nI k).toInt64 &&& 63)) &&& 255).toInt32 = btI w (nI (n - 1 - j)) := by rw [show n - 1 - j = k by omega]; rfl
            rw [e1]
            clear ih hi c_7 c_16 hle s0 s1 r0 hl
            by_cases h1 : a = t + 1
            · subst h1; grind (splits := 20)
            grind (splits := 20)
          · rfl
  refine CV.mk (L := [.ref t, .long w, .float 0, .int (nI n), .float 0]) (by decide) (Nat.le_of_ble_eq_true rfl) rfl ?_
  refine ld_i3 (np := 1) dX4_append_0 rfl ?_
  refine wl_iconst (np := 2) (v := 1) dX4_append_1 rfl (rfl) ?_
  refine wl_isub (np := 3) dX4_append_2 rfl ?_
  refine st_i4 (np := 5) dX4_append_3 rfl (by decide) rfl ?_
  have e0 : apM me t len w n 0 = me := by
    apply mem_ext
    · intro a b
      simp only [apM, g_def, g_raw]
      rw [if_neg (by omega)]
      split
      · rename_i hh
        rw [hh.1, hh.2, hl]; rfl
      · rfl
    · rfl
  have h := key n 0 (by omega)
  rw [e0] at h
  exact h
set_option maxHeartbeats 4000000 in
set_option maxRecDepth 100000 in
theorem c_nextByte (hq : isT sh me t) (hl : gI me t 1 = nI n) (hn : n ≤ 80) (hp : gI me t 2 = nI p) (hpn : p ≤ n) : CI d mX4_nextByte sh [.ref t] me (fun x m => x = nbI (gI me (t + 1)) n (skB (gI me (t + 1)) n p) ∧ m = uI me t 2 (nI (skB (gI me (t + 1)) n p))) := by
  obtain ⟨s0, s1, r0⟩ := hq
  have key : ∀ fuel i (m : Mem), n - i < fuel → i ≤ n → m = uI me t 2 (nI i) → skB (gI me (t + 1)) n i = skB (gI me (t + 1)) n p → Wa mX4_nextByte (0, fun _ => 0) d 0 0 sh.length (PI sh (fun x m => x = nbI (gI me (t + 1)) n (skB (gI me (t + 1)) n p) ∧ m = uI me t 2 (nI (skB (gI me (t + 1)) n p)))) 0 [.ref t] [] sh m 0 0 := by
    intro fuel
    induction fuel with
    | zero => intro i m h; omega
    | succ fuel ih =>
      intro i m hi hin hm hs
      subst hm
      have f1 : gI (uI me t 2 (nI i)) t 1 = nI n := by rw [gI_uI, if_neg (by omega)]; exact hl
      have f2 : gI (uI me t 2 (nI i)) t 2 = nI i := by rw [gI_uI]; simp
      have f3 : ∀ b, gI (uI me t 2 (nI i)) (t + 1) b = gI me (t + 1) b := fun b => by rw [gI_uI, if_neg (by omega)]
      refine ld_a0 (np := 1) dX4_nextByte_0 rfl ?_
      refine wl_geti (np := 4) dX4_nextByte_1 rfl fl_X4_25 (by decide) (by assumption) ?_
      refine ld_a0 (np := 5) dX4_nextByte_4 rfl ?_
      refine wl_geti (np := 8) dX4_nextByte_5 rfl fl_X4_21 (by decide) (by assumption) ?_
      refine wl_icmp_ge (np := 11) (tg := 38) dX4_nextByte_8 rfl rfl (fun c_8 => ?_) (fun c_8 => ?_)
      · rw [f1, f2, nI_le_iff (by omega) (by omega)] at c_8
        have hst : skB (gI me (t + 1)) n i = i := skB_stop (Or.inl c_8)
        refine ld_a0 (np := 39) dX4_nextByte_38 rfl ?_
        refine wl_geti (np := 42) dX4_nextByte_39 rfl fl_X4_25 (by decide) (by assumption) ?_
        refine ld_a0 (np := 43) dX4_nextByte_42 rfl ?_
        refine wl_geti (np := 46) dX4_nextByte_43 rfl fl_X4_21 (by decide) (by assumption) ?_
        refine wl_icmp_ge (np := 49) (tg := 61) dX4_nextByte_46 rfl rfl (fun c_46 => ?_) (fun c_46 => ?_)
        · refine wl_iconst (np := 62) (v := -1) dX4_nextByte_61 rfl (rfl) ?_
          refine wi_ret dX4_nextByte_62 rfl (rfl) (Nat.le_refl _) (Nat.le_refl _) ?_
          rw [← hs, hst]
          exact ⟨by unfold nbI; rw [if_neg (by omega)], rfl⟩
        · rw [f1, f2, nI_le_iff (by omega) (by omega)] at c_46
          omega
      · rw [f1, f2, nI_le_iff (by omega) (by omega)] at c_8
        have hia : inA sh (t + 1) (gI (uI me t 2 (nI i)) t 2) := by rw [f2]; exact inA_n s1 (by omega) (by decide)
        refine ld_a0 (np := 12) dX4_nextByte_11 rfl ?_
        refine wl_getr (np := 15) dX4_nextByte_12 rfl fl_X4_9 rfl (by assumption) (by assumption) ?_
        refine ld_a0 (np := 16) dX4_nextByte_15 rfl ?_
        refine wl_geti (np := 19) dX4_nextByte_16 rfl fl_X4_25 (by decide) (by assumption) ?_
        refine wl_iaload (np := 20) dX4_nextByte_19 rfl (hia) ?_
        refine wl_bipush (np := 22) (v := 32) dX4_nextByte_20 rfl (by decide) ?_
        refine wl_icmp_ne (np := 25) (tg := 38) dX4_nextByte_22 rfl rfl (fun c_22 => ?_) (fun c_22 => ?_)
        · rw [f2, nI_clamp (by omega), f3] at c_22
          have hst : skB (gI me (t + 1)) n i = i := skB_stop (Or.inr c_22)
          refine ld_a0 (np := 39) dX4_nextByte_38 rfl ?_
          refine wl_geti (np := 42) dX4_nextByte_39 rfl fl_X4_25 (by decide) (by assumption) ?_
          refine ld_a0 (np := 43) dX4_nextByte_42 rfl ?_
          refine wl_geti (np := 46) dX4_nextByte_43 rfl fl_X4_21 (by decide) (by assumption) ?_
          refine wl_icmp_ge (np := 49) (tg := 61) dX4_nextByte_46 rfl rfl (fun c_46 => ?_) (fun c_46 => ?_)
          · rw [f1, f2, nI_le_iff (by omega) (by omega)] at c_46
            omega
          · refine ld_a0 (np := 50) dX4_nextByte_49 rfl ?_
            refine wl_getr (np := 53) dX4_nextByte_50 rfl fl_X4_9 rfl (by assumption) (by assumption) ?_
            refine ld_a0 (np := 54) dX4_nextByte_53 rfl ?_
            refine wl_geti (np := 57) dX4_nextByte_54 rfl fl_X4_25 (by decide) (by assumption) ?_
            refine wl_iaload (np := 58) dX4_nextByte_57 rfl (hia) ?_
            refine wl_goto (tg := 62) dX4_nextByte_58 rfl ?_
            refine wi_ret dX4_nextByte_62 rfl (rfl) (Nat.le_refl _) (Nat.le_refl _) ?_
            rw [f2, nI_clamp (by omega), f3, ← hs, hst]
            exact ⟨by unfold nbI; rw [if_pos (by omega)], rfl⟩
        · rw [f2, nI_clamp (by omega), f3] at c_22
          refine ld_a0 (np := 26) dX4_nextByte_25 rfl ?_
          refine wl_dup (np := 27) dX4_nextByte_26 rfl rfl ?_
          refine wl_geti (np := 30) dX4_nextByte_27 rfl fl_X4_25 (by decide) (by assumption) ?_
          refine wl_iconst (np := 31) (v := 1) dX4_nextByte_30 rfl (rfl) ?_
          refine wl_iadd (np := 32) dX4_nextByte_31 rfl ?_
          refine wl_puti (np := 35) dX4_nextByte_32 rfl fl_X4_25 nf_4_2 rfl (by assumption) ?_
          refine wl_goto (tg := 0) dX4_nextByte_35 rfl ?_
          refine ih (i + 1) _ (by omega) (by omega) ?_ ((skB_step (by omega) c_22).symm.trans hs)
          rw [f2, ← nI_succ]
          apply mem_ext
          · intro a b
            simp only [gI_uI]
            by_cases hh : a = t ∧ b = 2
            · rw [if_pos hh, if_pos hh]
            · rw [if_neg hh, if_neg hh, if_neg hh]
          · rfl
  refine CI.mk (L := [.ref t]) (by decide) (Nat.le_of_ble_eq_true rfl) rfl ?_
  refine key (n + 1) p me (by omega) (by omega) ?_ rfl
  apply mem_ext
  · intro a b
    rw [gI_uI]
    split
    · rename_i hh
      rw [hh.1, hh.2, hp]
    · rfl
  · rfl
end TAPE
