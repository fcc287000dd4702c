section M21
variable {sh : List Shp} {me : Mem} {d n : Nat} {S : St} {O : Nat → Nat}
theorem tK_lt {O : Nat → Nat} : ∀ j k, tK O j = some k → k < j ∧ ¬ O (k + 1) < O k
  | 0, k, h => by cases h
  | j + 1, k, h => by
    unfold tK at h
    split at h
    · have := tK_lt j k h
      exact ⟨by omega, this.2⟩
    · rename_i hh
      cases h
      exact ⟨by omega, hh⟩
theorem tJ_ge {O : Nat → Nat} {k v : Nat} (hv : ¬ O (k + 1) < v) : ∀ j, k + 1 ≤ j → k + 1 ≤ tJ O v j ∧ tJ O v j ≤ j
  | 0, h => by omega
  | j + 1, h => by
    unfold tJ
    split
    · rename_i hlt
      have hne : k + 1 ≠ j + 1 := fun e => hv (by rw [e]; exact hlt)
      have := tJ_ge hv j (by omega)
      omega
    · omega
/-- the places of a row swapped -/
theorem swp_row {f : Nat → Int32} {a b : Nat} (hO : ∀ i, i < n → f i = nI (O i)) (ha : a < n) (hb : b < n) : ∀ i, i < n → upF (upF f a (f b)) b (f a) i = nI (swp O a b i) := by
  intro i hi
  unfold swp upF
  by_cases h1 : i = b
  · rw [if_pos h1, if_pos h1]; exact hO a ha
  · rw [if_neg h1, if_neg h1]
    by_cases h2 : i = a
    · rw [if_pos h2, if_pos h2]; exact hO b hb
    · rw [if_neg h2, if_neg h2]; exact hO i hi
def TrM (me : Mem) (n : Nat) (O : Nat → Nat) (x : Int32) (m : Mem) : Prop := match tK O (n - 1) with
  | none => x = 0 ∧ m = me
  | some k => x = 1 ∧ ∃ f, m = uA me 146 f ∧ ∀ i, i < n → f i = nI (nxt O n k i)
set_option maxHeartbeats 4000000 in
set_option maxRecDepth 100000 in
theorem c_M_turns (z0 : sh[136]? = some (.inl 7)) (g17 : gR me 136 17 = some 146) (x17 : sh[146]? = some (.inr (0, 6))) (hn : n ≤ 6) (hO : ∀ i, i < n → gI me 146 i = nI (O i)) (hb : ∀ i, i < n → O i < 6) : CI d mX7_turns sh [.ref 136, .int (nI n)] me (fun x m => TrM me n O x m) := by
  refine CI.mk (L := [.ref 136, .int (nI n), .float 0, .float 0, .float 0, .float 0, .float 0]) (by decide) (Nat.le_of_ble_eq_true rfl) rfl ?_
  have k0 : tK O (n - 1) = none → ∀ k2, k2 < 0 → Wa mX7_turns (0, fun _ => 0) d 0 0 sh.length (PI sh (fun x m => TrM me n O x m)) 31 [.ref 136, .int (nI n), .int k2, .float 0, .float 0, .float 0, .float 0] [] sh me 0 0 := by
    intro hk k2 hk2
    unfold TrM
    rw [hk]
    refine ld_i2 (np := 32) dX7_turns_31 rfl ?_
    refine wl_if_ge (np := 35) (tg := 37) dX7_turns_32 rfl rfl (fun c_32 => ?_) (fun c_32 => ?_)
    · exact absurd hk2 (Int32.not_lt.mpr c_32)
    · refine wl_iconst (np := 36) (v := 0) dX7_turns_35 rfl (rfl) ?_
      refine wi_ret dX7_turns_36 rfl (by decide) (Nat.le_refl _) (Nat.le_refl _) ?_
      exact ⟨rfl, rfl⟩
  have k1 : ∀ k, tK O (n - 1) = some k → Wa mX7_turns (0, fun _ => 0) d 0 0 sh.length (PI sh (fun x m => TrM me n O x m)) 31 [.ref 136, .int (nI n), .int (nI k), .float 0, .float 0, .float 0, .float 0] [] sh me 0 0 := by
    intro k hk
    obtain ⟨hk1, hk2⟩ := tK_lt _ _ hk
    obtain ⟨hj1, hj2⟩ := tJ_ge hk2 (n - 1) (by omega)
    unfold TrM
    rw [hk]
    dsimp only
    have en : nI n - 1 = nI (n - 1) := nI_subI (b := 1) (by omega)
    have hnx : nxt O n k = rvF 6 (swp O k (tJ O (O k) (n - 1))) (k + 1) (n - 1) := rfl
    rw [hnx]
    generalize hJ : tJ O (O k) (n - 1) = J at hj1 hj2 ⊢
    have krev : ∀ fu (Q : Nat → Nat) (f : Nat → Int32) a b, b < a + fu → k < a → b < n → a ≤ n → (∀ i, i < n → f i = nI (Q i)) → (∀ i, i < n → Q i < 6) → rvF fu Q a b = rvF 6 (swp O k J) (k + 1) (n - 1) → ∀ w4, w4.category = 1 → Wa mX7_turns (0, fun _ => 0) d 0 0 sh.length (PI sh (fun x m => x = 1 ∧ ∃ f, m = uA me 146 f ∧ ∀ i, i < n → f i = nI (rvF 6 (swp O k J) (k + 1) (n - 1) i))) 100 [.ref 136, .int (nI n), .int (nI k), .int (nI J), w4, .int (nI a), .int (nI b)] [] sh (uA me 146 f) 0 0 := by
      intro fu
      induction fu with
      | zero =>
        intro Q f a b h1 h2 h3 h4 hf hq hr w4 hw4
        refine ld_i5 (np := 102) dX7_turns_100 rfl ?_
        refine ld_i6 (np := 104) dX7_turns_102 rfl ?_
        refine wl_icmp_ge (np := 107) (tg := 148) dX7_turns_104 rfl rfl (fun c_104 => ?_) (fun c_104 => ?_)
        · refine wl_iconst (np := 149) (v := 1) dX7_turns_148 rfl (rfl) ?_
          refine wi_ret dX7_turns_149 rfl (by decide) (Nat.le_refl _) (Nat.le_refl _) ?_
          exact ⟨rfl, f, rfl, fun i hi => by rw [← hr]; exact hf i hi⟩
        · rw [nI_leI (by omega) (by omega)] at c_104
          omega
      | succ fu ih =>
        intro Q f a b h1 h2 h3 h4 hf hq hr w4 hw4
        refine ld_i5 (np := 102) dX7_turns_100 rfl ?_
        refine ld_i6 (np := 104) dX7_turns_102 rfl ?_
        refine wl_icmp_ge (np := 107) (tg := 148) dX7_turns_104 rfl rfl (fun c_104 => ?_) (fun c_104 => ?_)
        · rw [nI_leI (by omega) (by omega)] at c_104
          refine wl_iconst (np := 149) (v := 1) dX7_turns_148 rfl (rfl) ?_
          refine wi_ret dX7_turns_149 rfl (by decide) (Nat.le_refl _) (Nat.le_refl _) ?_
          refine ⟨rfl, f, rfl, fun i hi => ?_⟩
          rw [← hr]
          unfold rvF
          rw [if_neg (by omega)]
          exact hf i hi
        · rw [nI_leI (by omega) (by omega)] at c_104
          have hlt : a < b := by omega
          refine ld_a0 (np := 108) dX7_turns_107 rfl ?_
          refine wl_getr (np := 111) dX7_turns_108 rfl fl_X7_40 rfl (by assumption) (by assumption) ?_
          refine ld_i5 (np := 113) dX7_turns_111 rfl ?_
          refine wl_ialoadN (np := 114) dX7_turns_113 rfl (by first | (simp only [nIm, nIa, ← nI_succ]; exact rfl) | exact nI_z | exact nI_o | exact rfl) (by assumption) (by omega) (by first | decide | omega) ?_
          refine st_i4 (np := 116) dX7_turns_114 rfl (by decide) rfl ?_
          refine ld_a0 (np := 117) dX7_turns_116 rfl ?_
          refine wl_getr (np := 120) dX7_turns_117 rfl fl_X7_40 rfl (by assumption) (by assumption) ?_
          refine ld_i5 (np := 122) dX7_turns_120 rfl ?_
          refine ld_a0 (np := 123) dX7_turns_122 rfl ?_
          refine wl_getr (np := 126) dX7_turns_123 rfl fl_X7_40 rfl (by assumption) (by assumption) ?_
          refine ld_i6 (np := 128) dX7_turns_126 rfl ?_
          refine wl_ialoadN (np := 129) dX7_turns_128 rfl (by first | (simp only [nIm, nIa, ← nI_succ]; exact rfl) | exact nI_z | exact nI_o | exact rfl) (by assumption) (by omega) (by first | decide | omega) ?_
          refine wl_iastoreN (np := 130) dX7_turns_129 rfl (by first | (simp only [nIm, nIa, ← nI_succ]; exact rfl) | exact nI_z | exact nI_o | exact rfl) (by assumption) (by omega) (by first | decide | omega) ?_
          refine ld_a0 (np := 131) dX7_turns_130 rfl ?_
          refine wl_getr (np := 134) dX7_turns_131 rfl fl_X7_40 rfl (by assumption) (by assumption) ?_
          refine ld_i6 (np := 136) dX7_turns_134 rfl ?_
          refine ld_i4 (np := 138) dX7_turns_136 rfl ?_
          refine wl_iastoreN (np := 139) dX7_turns_138 rfl (by first | (simp only [nIm, nIa, ← nI_succ]; exact rfl) | exact nI_z | exact nI_o | exact rfl) (by assumption) (by omega) (by first | decide | omega) ?_
          refine inc_5 (np := 142) (v := _ + 1) dX7_turns_139 rfl rfl (by decide) rfl ?_
          refine inc_6 (np := 145) (v := _ + (-1)) dX7_turns_142 rfl rfl (by decide) rfl ?_
          refine wl_goto (tg := 100) dX7_turns_145 rfl ?_
          rw [uI_uA, gI_uAs, uI_uA, ← nI_succ]
          obtain ⟨b', rfl⟩ : ∃ b', b = b' + 1 := ⟨b - 1, by omega⟩
          rw [pk_m1]
          refine ih (swp Q a (b' + 1)) _ (a + 1) b' (by omega) (by omega) (by omega) (by omega) (swp_row hf (by omega) (by omega)) (fun i hi => ?_) ?_ _ rfl
          · unfold swp
            split
            · exact hq a (by omega)
            · split
              · exact hq _ h3
              · exact hq i hi
          · rw [← hr]
            conv => rhs; unfold rvF
            rw [if_pos hlt]
            rfl
    have kj : ∀ fu j, j ≤ k + 1 + fu → k + 1 ≤ j → j < n → tJ O (O k) j = J → Wa mX7_turns (0, fun _ => 0) d 0 0 sh.length (PI sh (fun x m => x = 1 ∧ ∃ f, m = uA me 146 f ∧ ∀ i, i < n → f i = nI (rvF 6 (swp O k J) (k + 1) (n - 1) i))) 41 [.ref 136, .int (nI n), .int (nI k), .int (nI j), .float 0, .float 0, .float 0] [] sh me 0 0 := by
      have kx : Wa mX7_turns (0, fun _ => 0) d 0 0 sh.length (PI sh (fun x m => x = 1 ∧ ∃ f, m = uA me 146 f ∧ ∀ i, i < n → f i = nI (rvF 6 (swp O k J) (k + 1) (n - 1) i))) 62 [.ref 136, .int (nI n), .int (nI k), .int (nI J), .float 0, .float 0, .float 0] [] sh me 0 0 := by
        refine ld_a0 (np := 63) dX7_turns_62 rfl ?_
        refine wl_getr (np := 66) dX7_turns_63 rfl fl_X7_40 rfl (by assumption) (by assumption) ?_
        refine ld_i2 (np := 67) dX7_turns_66 rfl ?_
        refine wl_ialoadN (np := 68) dX7_turns_67 rfl (by first | (simp only [nIm, nIa, ← nI_succ]; exact rfl) | exact nI_z | exact nI_o | exact rfl) (by assumption) (by omega) (by first | decide | omega) ?_
        refine st_i4 (np := 70) dX7_turns_68 rfl (by decide) rfl ?_
        refine ld_a0 (np := 71) dX7_turns_70 rfl ?_
        refine wl_getr (np := 74) dX7_turns_71 rfl fl_X7_40 rfl (by assumption) (by assumption) ?_
        refine ld_i2 (np := 75) dX7_turns_74 rfl ?_
        refine ld_a0 (np := 76) dX7_turns_75 rfl ?_
        refine wl_getr (np := 79) dX7_turns_76 rfl fl_X7_40 rfl (by assumption) (by assumption) ?_
        refine ld_i3 (np := 80) dX7_turns_79 rfl ?_
        refine wl_ialoadN (np := 81) dX7_turns_80 rfl (by first | (simp only [nIm, nIa, ← nI_succ]; exact rfl) | exact nI_z | exact nI_o | exact rfl) (by assumption) (by omega) (by first | decide | omega) ?_
        refine wl_iastoreN (np := 82) dX7_turns_81 rfl (by first | (simp only [nIm, nIa, ← nI_succ]; exact rfl) | exact nI_z | exact nI_o | exact rfl) (by assumption) (by omega) (by first | decide | omega) ?_
        refine ld_a0 (np := 83) dX7_turns_82 rfl ?_
        refine wl_getr (np := 86) dX7_turns_83 rfl fl_X7_40 rfl (by assumption) (by assumption) ?_
        refine ld_i3 (np := 87) dX7_turns_86 rfl ?_
        refine ld_i4 (np := 89) dX7_turns_87 rfl ?_
        refine wl_iastoreN (np := 90) dX7_turns_89 rfl (by first | (simp only [nIm, nIa, ← nI_succ]; exact rfl) | exact nI_z | exact nI_o | exact rfl) (by assumption) (by omega) (by first | decide | omega) ?_
        refine ld_i2 (np := 91) dX7_turns_90 rfl ?_
        refine wl_iconst (np := 92) (v := 1) dX7_turns_91 rfl (rfl) ?_
        refine wl_iadd (np := 93) dX7_turns_92 rfl ?_
        refine st_i5 (np := 95) dX7_turns_93 rfl (by decide) rfl ?_
        refine ld_i1 (np := 96) dX7_turns_95 rfl ?_
        refine wl_iconst (np := 97) (v := 1) dX7_turns_96 rfl (rfl) ?_
        refine wl_isub (np := 98) dX7_turns_97 rfl ?_
        refine st_i6 (np := 100) dX7_turns_98 rfl (by decide) rfl ?_
        rw [uI_eq me, uI_uA, en, ← nI_succ]
        refine krev 6 (swp O k J) _ (k + 1) (n - 1) (by omega) (by omega) (by omega) (by omega) (swp_row hO (by omega) (by omega)) (fun i hi => ?_) rfl _ rfl
        unfold swp
        split
        · exact hb k (by omega)
        · split
          · exact hb J (by omega)
          · exact hb i hi
      intro fu
      induction fu with
      | zero =>
        intro j h1 h2 h3 h4
        have hjk : j = k + 1 := by omega
        subst hjk
        have h4 : (if O (k + 1) < O k then tJ O (O k) k else k + 1) = J := h4
        rw [if_neg hk2] at h4
        subst h4
        refine ld_a0 (np := 42) dX7_turns_41 rfl ?_
        refine wl_getr (np := 45) dX7_turns_42 rfl fl_X7_40 rfl (by assumption) (by assumption) ?_
        refine ld_i3 (np := 46) dX7_turns_45 rfl ?_
        refine wl_ialoadN (np := 47) dX7_turns_46 rfl (by first | (simp only [nIm, nIa, ← nI_succ]; exact rfl) | exact nI_z | exact nI_o | exact rfl) (by assumption) (by omega) (by first | decide | omega) ?_
        refine ld_a0 (np := 48) dX7_turns_47 rfl ?_
        refine wl_getr (np := 51) dX7_turns_48 rfl fl_X7_40 rfl (by assumption) (by assumption) ?_
        refine ld_i2 (np := 52) dX7_turns_51 rfl ?_
        refine wl_ialoadN (np := 53) dX7_turns_52 rfl (by first | (simp only [nIm, nIa, ← nI_succ]; exact rfl) | exact nI_z | exact nI_o | exact rfl) (by assumption) (by omega) (by first | decide | omega) ?_
        refine wl_icmp_ge (np := 56) (tg := 62) dX7_turns_53 rfl rfl (fun c_53 => ?_) (fun c_53 => ?_)
        · exact kx
        · rw [hO _ h3, hO k (by omega), nI_leI (by have := hb k (by omega); omega) (by have := hb _ h3; omega)] at c_53
          omega
      | succ fu ih =>
        intro j h1 h2 h3 h4
        obtain ⟨j', rfl⟩ : ∃ j', j = j' + 1 := ⟨j - 1, by omega⟩
        have h4 : (if O (j' + 1) < O k then tJ O (O k) j' else j' + 1) = J := h4
        have b1 := hb k (by omega)
        have b2 := hb _ h3
        refine ld_a0 (np := 42) dX7_turns_41 rfl ?_
        refine wl_getr (np := 45) dX7_turns_42 rfl fl_X7_40 rfl (by assumption) (by assumption) ?_
        refine ld_i3 (np := 46) dX7_turns_45 rfl ?_
        refine wl_ialoadN (np := 47) dX7_turns_46 rfl (by first | (simp only [nIm, nIa, ← nI_succ]; exact rfl) | exact nI_z | exact nI_o | exact rfl) (by assumption) (by omega) (by first | decide | omega) ?_
        refine ld_a0 (np := 48) dX7_turns_47 rfl ?_
        refine wl_getr (np := 51) dX7_turns_48 rfl fl_X7_40 rfl (by assumption) (by assumption) ?_
        refine ld_i2 (np := 52) dX7_turns_51 rfl ?_
        refine wl_ialoadN (np := 53) dX7_turns_52 rfl (by first | (simp only [nIm, nIa, ← nI_succ]; exact rfl) | exact nI_z | exact nI_o | exact rfl) (by assumption) (by omega) (by first | decide | omega) ?_
        refine wl_icmp_ge (np := 56) (tg := 62) dX7_turns_53 rfl rfl (fun c_53 => ?_) (fun c_53 => ?_)
        · rw [hO _ h3, hO k (by omega), nI_leI (by omega) (by omega)] at c_53
          rw [if_neg (by omega)] at h4
          subst h4
          exact kx
        · rw [hO _ h3, hO k (by omega), nI_leI (by omega) (by omega)] at c_53
          rw [if_pos (by omega)] at h4
          have hne : k + 1 ≠ j' + 1 := fun e => hk2 (by rw [e]; omega)
          refine inc_3 (np := 59) (v := _ + (-1)) dX7_turns_56 rfl rfl (by decide) rfl ?_
          refine wl_goto (tg := 41) dX7_turns_59 rfl ?_
          rw [pk_m1]
          exact ih j' (by omega) (by omega) (by omega) h4
    refine ld_i2 (np := 32) dX7_turns_31 rfl ?_
    refine wl_if_ge (np := 35) (tg := 37) dX7_turns_32 rfl rfl (fun c_32 => ?_) (fun c_32 => ?_)
    · refine ld_i1 (np := 38) dX7_turns_37 rfl ?_
      refine wl_iconst (np := 39) (v := 1) dX7_turns_38 rfl (rfl) ?_
      refine wl_isub (np := 40) dX7_turns_39 rfl ?_
      refine st_i3 (np := 41) dX7_turns_40 rfl (by decide) rfl ?_
      rw [en]
      exact kj n (n - 1) (by omega) (by omega) (by omega) hJ
    · exact absurd (nI_pos' (by omega)) c_32
  have key : ∀ kk, kk + 1 ≤ n → tK O kk = tK O (n - 1) → Wa mX7_turns (0, fun _ => 0) d 0 0 sh.length (PI sh (fun x m => TrM me n O x m)) 4 [.ref 136, .int (nI n), .int (nI kk - 1), .float 0, .float 0, .float 0, .float 0] [] sh me 0 0 := by
    intro kk
    induction kk with
    | zero =>
      intro h1 h2
      refine ld_i2 (np := 5) dX7_turns_4 rfl ?_
      refine wl_if_lt (np := 8) (tg := 31) dX7_turns_5 rfl rfl (fun c_5 => ?_) (fun c_5 => ?_)
      · exact k0 h2.symm _ (by decide)
      · exact absurd (show nI 0 - 1 < 0 by decide) c_5
    | succ k ih =>
      intro h1 h2
      have h2 : (if O (k + 1) < O k then tK O k else some k) = tK O (n - 1) := h2
      rw [nI_pred]
      have b1 := hb k (by omega)
      have b2 := hb (k + 1) (by omega)
      refine ld_i2 (np := 5) dX7_turns_4 rfl ?_
      refine wl_if_lt (np := 8) (tg := 31) dX7_turns_5 rfl rfl (fun c_5 => ?_) (fun c_5 => ?_)
      · exact absurd c_5 (Int32.not_lt.mpr (nI_pos' (by omega)))
      · refine ld_a0 (np := 9) dX7_turns_8 rfl ?_
        refine wl_getr (np := 12) dX7_turns_9 rfl fl_X7_40 rfl (by assumption) (by assumption) ?_
        refine ld_i2 (np := 13) dX7_turns_12 rfl ?_
        refine wl_ialoadN (np := 14) dX7_turns_13 rfl (by first | (simp only [nIm, nIa, ← nI_succ]; exact rfl) | exact nI_z | exact nI_o | exact rfl) (by assumption) (by omega) (by first | decide | omega) ?_
        refine ld_a0 (np := 15) dX7_turns_14 rfl ?_
        refine wl_getr (np := 18) dX7_turns_15 rfl fl_X7_40 rfl (by assumption) (by assumption) ?_
        refine ld_i2 (np := 19) dX7_turns_18 rfl ?_
        refine wl_iconst (np := 20) (v := 1) dX7_turns_19 rfl (rfl) ?_
        refine wl_iadd (np := 21) dX7_turns_20 rfl ?_
        refine wl_ialoadN (np := 22) dX7_turns_21 rfl (by first | (simp only [nIm, nIa, ← nI_succ]; exact rfl) | exact nI_z | exact nI_o | exact rfl) (by assumption) (by omega) (by first | decide | omega) ?_
        refine wl_icmp_le (np := 25) (tg := 31) dX7_turns_22 rfl rfl (fun c_22 => ?_) (fun c_22 => ?_)
        · rw [hO _ (by omega), hO _ (by omega), nI_leI (by omega) (by omega)] at c_22
          rw [if_neg (by omega)] at h2
          exact k1 k h2.symm
        · rw [hO _ (by omega), hO _ (by omega), nI_leI (by omega) (by omega)] at c_22
          rw [if_pos (by omega)] at h2
          refine inc_2 (np := 28) (v := _ + (-1)) dX7_turns_25 rfl rfl (by decide) rfl ?_
          refine wl_goto (tg := 4) dX7_turns_28 rfl ?_
          rw [← Int32.sub_eq_add_neg]
          exact ih (by omega) h2
  refine ld_i1 (np := 1) dX7_turns_0 rfl ?_
  refine wl_iconst (np := 2) (v := nI 2) dX7_turns_1 rfl (rfl) ?_
  refine wl_isub (np := 3) dX7_turns_2 rfl ?_
  refine st_i2 (np := 4) dX7_turns_3 rfl (by decide) rfl ?_
  by_cases h0 : n = 0
  · subst h0
    refine ld_i2 (np := 5) dX7_turns_4 rfl ?_
    refine wl_if_lt (np := 8) (tg := 31) dX7_turns_5 rfl rfl (fun c_5 => ?_) (fun c_5 => ?_)
    · exact k0 rfl _ (by decide)
    · exact absurd (show nI 0 - nI 2 < 0 by decide) c_5
  · have e2 : nI n - nI 2 = nI (n - 1) - 1 := by
      obtain ⟨k, rfl⟩ : ∃ k, n = k + 1 := ⟨n - 1, by omega⟩
      rw [show k + 1 - 1 = k by omega, ← nI_pred k]
      rw [Int32.sub_sub]
      rfl
    rw [e2]
    exact key (n - 1) (by omega) rfl
def lawT (z n : Nat) (O : Nat → Nat) (j : Nat) : Bool := (List.range j).all (lawB z n O)
theorem lawT_s (z n : Nat) (O : Nat → Nat) (j : Nat) : lawT z n O (j + 1) = (lawT z n O j && lawB z n O j) := by
  unfold lawT
  rw [List.range_succ, List.all_append]
  simp
set_option maxHeartbeats 4000000 in
set_option maxRecDepth 100000 in
theorem c_M_isLawful {off : Int32} (z0 : sh[136]? = some (.inl 7)) (g17 : gR me 136 17 = some 146) (x17 : sh[146]? = some (.inr (0, 6))) (g6 : gR me 136 6 = some 141) (x6 : sh[141]? = some (.inr (0, 2))) (hoff : gI me 141 0 = off) (hn : n ≤ 6) (hO : ∀ i, i < n → gI me 146 i = nI (O i)) (hb : ∀ i, i < n → O i < 6) : CI d mX7_isLawful sh [.ref 136, .int (nI n)] me (fun x m => x = (if lawT (offZ off) n O n = true then 1 else 0) ∧ m = me) := by
  refine CI.mk (L := [.ref 136, .int (nI n), .float 0, .float 0]) (by decide) (Nat.le_of_ble_eq_true rfl) rfl ?_
  have key : ∀ fuel j, j + fuel = n → Wa mX7_isLawful (0, fun _ => 0) d 0 0 sh.length (PI sh (fun x m => x = (if lawT (offZ off) n O n = true then 1 else 0) ∧ m = me)) 4 [.ref 136, .int (nI n), .int (if lawT (offZ off) n O j = true then 1 else 0), .int (nI j)] [] sh me 0 0 := by
    intro fuel
    induction fuel with
    | zero =>
      intro j hj
      have hjn : j = n := by omega
      subst hjn
      refine ld_i3 (np := 5) dX7_isLawful_4 rfl ?_
      refine ld_i1 (np := 6) dX7_isLawful_5 rfl ?_
      refine wl_icmp_ge (np := 9) (tg := 90) dX7_isLawful_6 rfl rfl (fun c_6 => ?_) (fun c_6 => ?_)
      · refine ld_i2 (np := 91) dX7_isLawful_90 rfl ?_
        refine wi_ret dX7_isLawful_91 rfl (wi_nar) (Nat.le_refl _) (Nat.le_refl _) ?_
        exact ⟨rfl, rfl⟩
      · exact absurd (Int32.le_refl _) c_6
    | succ fuel ih =>
      intro j hj
      have bj := hb j (by omega)
      have en : nI n - 1 = nI (n - 1) := nI_subI (b := 1) (by omega)
      have k82 : lawT (offZ off) n O (j + 1) = false → ∀ w2, Wa mX7_isLawful (0, fun _ => 0) d 0 0 sh.length (PI sh (fun x m => x = (if lawT (offZ off) n O n = true then 1 else 0) ∧ m = me)) 82 [.ref 136, .int (nI n), .int w2, .int (nI j)] [] sh me 0 0 := by
        intro h w2
        have hi := ih (j + 1) (by omega)
        have e0 : (if lawT (offZ off) n O (j + 1) = true then (1 : Int32) else 0) = 0 := by rw [h]; rfl
        rw [e0] at hi
        refine wl_iconst (np := 83) (v := 0) dX7_isLawful_82 rfl (rfl) ?_
        refine st_i2 (np := 84) dX7_isLawful_83 rfl (by decide) rfl ?_
        refine inc_3 (np := 87) (v := _ + 1) dX7_isLawful_84 rfl rfl (by decide) rfl ?_
        refine wl_goto (tg := 4) dX7_isLawful_87 rfl ?_
        rw [← nI_succ]
        exact hi
      have k78 : lawT (offZ off) n O (j + 1) = true → ∀ w2, Wa mX7_isLawful (0, fun _ => 0) d 0 0 sh.length (PI sh (fun x m => x = (if lawT (offZ off) n O n = true then 1 else 0) ∧ m = me)) 78 [.ref 136, .int (nI n), .int w2, .int (nI j)] [] sh me 0 0 := by
        intro h w2
        have hi := ih (j + 1) (by omega)
        have e0 : (if lawT (offZ off) n O (j + 1) = true then (1 : Int32) else 0) = 1 := by rw [h]; rfl
        rw [e0] at hi
        refine wl_iconst (np := 79) (v := 1) dX7_isLawful_78 rfl (rfl) ?_
        refine wl_goto (tg := 83) dX7_isLawful_79 rfl ?_
        refine st_i2 (np := 84) dX7_isLawful_83 rfl (by decide) rfl ?_
        refine inc_3 (np := 87) (v := _ + 1) dX7_isLawful_84 rfl rfl (by decide) rfl ?_
        refine wl_goto (tg := 4) dX7_isLawful_87 rfl ?_
        rw [← nI_succ]
        exact hi
      refine ld_i3 (np := 5) dX7_isLawful_4 rfl ?_
      refine ld_i1 (np := 6) dX7_isLawful_5 rfl ?_
      refine wl_icmp_ge (np := 9) (tg := 90) dX7_isLawful_6 rfl rfl (fun c_6 => ?_) (fun c_6 => ?_)
      · rw [nI_leI (by omega) (by omega)] at c_6
        omega
      · refine ld_i2 (np := 10) dX7_isLawful_9 rfl ?_
        refine wl_if_eq (np := 13) (tg := 82) dX7_isLawful_10 rfl rfl (fun c_10 => ?_) (fun c_10 => ?_)
        · have hl := if0 c_10
          refine k82 ?_ _
          rw [lawT_s]
          cases hh : lawT (offZ off) n O j with
          | true => exact absurd hh hl
          | false => rfl
        · have hl := if1 c_10
          have hs : lawT (offZ off) n O (j + 1) = lawB (offZ off) n O j := by rw [lawT_s, hl]; rfl
          refine ld_a0 (np := 14) dX7_isLawful_13 rfl ?_
          refine wl_getr (np := 17) dX7_isLawful_14 rfl fl_X7_25 rfl (by assumption) (by assumption) ?_
          refine wl_iconst (np := 18) (v := 0) dX7_isLawful_17 rfl (rfl) ?_
          refine wl_ialoadN (np := 19) dX7_isLawful_18 rfl (by first | (simp only [nIm, nIa, ← nI_succ]; exact rfl) | exact nI_z | exact nI_o | exact rfl) (by assumption) (by omega) (by first | decide | omega) ?_
          refine wl_if_ne (np := 22) (tg := 39) dX7_isLawful_19 rfl rfl (fun c_19 => ?_) (fun c_19 => ?_)
          · have h0 : ¬ off = 0 := by rw [← hoff]; exact c_19
            refine ld_a0 (np := 40) dX7_isLawful_39 rfl ?_
            refine wl_getr (np := 43) dX7_isLawful_40 rfl fl_X7_25 rfl (by assumption) (by assumption) ?_
            refine wl_iconst (np := 44) (v := 0) dX7_isLawful_43 rfl (rfl) ?_
            refine wl_ialoadN (np := 45) dX7_isLawful_44 rfl (by first | (simp only [nIm, nIa, ← nI_succ]; exact rfl) | exact nI_z | exact nI_o | exact rfl) (by assumption) (by omega) (by first | decide | omega) ?_
            refine wl_iconst (np := 46) (v := 1) dX7_isLawful_45 rfl (rfl) ?_
            refine wl_icmp_ne (np := 49) (tg := 62) dX7_isLawful_46 rfl rfl (fun c_46 => ?_) (fun c_46 => ?_)
            · have h1 : ¬ off = 1 := by rw [← hoff]; exact c_46
              have hz : lawB (offZ off) n O j = (decide (0 < O j) || j == n - 1) := by
                unfold offZ
                rw [if_neg h0, if_neg h1]
                rfl
              refine ld_a0 (np := 63) dX7_isLawful_62 rfl ?_
              refine wl_getr (np := 66) dX7_isLawful_63 rfl fl_X7_40 rfl (by assumption) (by assumption) ?_
              refine ld_i3 (np := 67) dX7_isLawful_66 rfl ?_
              refine wl_ialoadN (np := 68) dX7_isLawful_67 rfl (by first | (simp only [nIm, nIa, ← nI_succ]; exact rfl) | exact nI_z | exact nI_o | exact rfl) (by assumption) (by omega) (by first | decide | omega) ?_
              refine wl_if_gt (np := 71) (tg := 78) dX7_isLawful_68 rfl rfl (fun c_68 => ?_) (fun c_68 => ?_)
              · refine k78 ?_ _
                rw [hO j (by omega), nI_z, nI_ltI (by decide) (by omega)] at c_68
                rw [hs, hz, decide_eq_true c_68]
                rfl
              · rw [hO j (by omega), nI_z, nI_ltI (by decide) (by omega)] at c_68
                refine ld_i3 (np := 72) dX7_isLawful_71 rfl ?_
                refine ld_i1 (np := 73) dX7_isLawful_72 rfl ?_
                refine wl_iconst (np := 74) (v := 1) dX7_isLawful_73 rfl (rfl) ?_
                refine wl_isub (np := 75) dX7_isLawful_74 rfl ?_
                refine wl_icmp_ne (np := 78) (tg := 82) dX7_isLawful_75 rfl rfl (fun c_75 => ?_) (fun c_75 => ?_)
                · rw [en, nI_eq (by omega) (by omega)] at c_75
                  refine k82 ?_ _
                  rw [hs, hz, decide_eq_false c_68]
                  simpa using c_75
                · rw [en, nI_eq (by omega) (by omega)] at c_75
                  refine k78 ?_ _
                  rw [hs, hz, c_75]
                  simp
            · have h1 : off = 1 := by rw [← hoff]; exact c_46
              have hz : lawB (offZ off) n O j = (O j == j) := by
                unfold offZ
                rw [if_neg h0, if_pos h1]
                rfl
              refine ld_a0 (np := 50) dX7_isLawful_49 rfl ?_
              refine wl_getr (np := 53) dX7_isLawful_50 rfl fl_X7_40 rfl (by assumption) (by assumption) ?_
              refine ld_i3 (np := 54) dX7_isLawful_53 rfl ?_
              refine wl_ialoadN (np := 55) dX7_isLawful_54 rfl (by first | (simp only [nIm, nIa, ← nI_succ]; exact rfl) | exact nI_z | exact nI_o | exact rfl) (by assumption) (by omega) (by first | decide | omega) ?_
              refine ld_i3 (np := 56) dX7_isLawful_55 rfl ?_
              refine wl_icmp_ne (np := 59) (tg := 82) dX7_isLawful_56 rfl rfl (fun c_56 => ?_) (fun c_56 => ?_)
              · rw [hO j (by omega), nI_eq (by omega) (by omega)] at c_56
                refine k82 ?_ _
                rw [hs, hz]
                simpa using c_56
              · rw [hO j (by omega), nI_eq (by omega) (by omega)] at c_56
                refine wl_goto (tg := 78) dX7_isLawful_59 rfl ?_
                refine k78 ?_ _
                rw [hs, hz, c_56]
                simp
          · have h0 : off = 0 := by rw [← hoff]; exact c_19
            have hz : lawB (offZ off) n O j = (O j == n - 1 - j) := by
              unfold offZ
              rw [if_pos h0]
              rfl
            refine ld_a0 (np := 23) dX7_isLawful_22 rfl ?_
            refine wl_getr (np := 26) dX7_isLawful_23 rfl fl_X7_40 rfl (by assumption) (by assumption) ?_
            refine ld_i3 (np := 27) dX7_isLawful_26 rfl ?_
            refine wl_ialoadN (np := 28) dX7_isLawful_27 rfl (by first | (simp only [nIm, nIa, ← nI_succ]; exact rfl) | exact nI_z | exact nI_o | exact rfl) (by assumption) (by omega) (by first | decide | omega) ?_
            refine ld_i1 (np := 29) dX7_isLawful_28 rfl ?_
            refine wl_iconst (np := 30) (v := 1) dX7_isLawful_29 rfl (rfl) ?_
            refine wl_isub (np := 31) dX7_isLawful_30 rfl ?_
            refine ld_i3 (np := 32) dX7_isLawful_31 rfl ?_
            refine wl_isub (np := 33) dX7_isLawful_32 rfl ?_
            refine wl_icmp_ne (np := 36) (tg := 82) dX7_isLawful_33 rfl rfl (fun c_33 => ?_) (fun c_33 => ?_)
            · rw [hO j (by omega), en, nI_subI (by omega), nI_eq (by omega) (by omega)] at c_33
              refine k82 ?_ _
              rw [hs, hz]
              simpa using c_33
            · rw [hO j (by omega), en, nI_subI (by omega), nI_eq (by omega) (by omega)] at c_33
              refine wl_goto (tg := 78) dX7_isLawful_36 rfl ?_
              refine k78 ?_ _
              rw [hs, hz, c_33]
              simp
  refine wl_iconst (np := 1) (v := 1) dX7_isLawful_0 rfl (rfl) ?_
  refine st_i2 (np := 2) dX7_isLawful_1 rfl (by decide) rfl ?_
  refine wl_iconst (np := 3) (v := 0) dX7_isLawful_2 rfl (rfl) ?_
  refine st_i3 (np := 4) dX7_isLawful_3 rfl (by decide) rfl ?_
  exact key n 0 (by omega)
set_option maxHeartbeats 4000000 in
set_option maxRecDepth 100000 in
theorem c_M_starts {p : Nat} (z0 : sh[136]? = some (.inl 7)) (g1 : gR me 136 1 = some 137) (x1 : sh[137]? = some (.inr (0, 200))) (g21 : gR me 136 21 = some 148) (x21 : sh[148]? = some (.inr (0, 40))) (hp : p < 5) : CV d mX7_starts sh [.ref 136, .int (nI p)] me (fun m => ∃ f, m = uA me 148 f ∧ ∀ i, i < 40 → f i = gI me 137 (40 * p + i)) := by
  refine CV.mk (L := [.ref 136, .int (nI p), .float 0]) (by decide) (Nat.le_of_ble_eq_true rfl) rfl ?_
  have key : ∀ fuel j (f : Nat → Int32), j + fuel = 40 → (∀ i, i < j → f i = gI me 137 (40 * p + i)) → Wa mX7_starts (0, fun _ => 0) d 0 0 sh.length (PV sh (fun m => ∃ f, m = uA me 148 f ∧ ∀ i, i < 40 → f i = gI me 137 (40 * p + i))) 2 [.ref 136, .int (nI p), .int (nI j)] [] sh (uA me 148 f) 0 0 := by
    intro fuel
    induction fuel with
    | zero =>
      intro j f hj hf
      refine ld_i2 (np := 3) dX7_starts_2 rfl ?_
      refine wl_bipush (np := 5) (v := nI 40) dX7_starts_3 rfl (by decide) ?_
      refine wl_icmp_ge (np := 8) (tg := 31) dX7_starts_5 rfl rfl (fun c_5 => ?_) (fun c_5 => ?_)
      · refine wv_ret dX7_starts_31 rfl (Nat.le_refl _) (Nat.le_refl _) ?_
        exact ⟨f, rfl, fun i hi => hf i (by omega)⟩
      · rw [nI_leI (by decide) (by omega)] at c_5
        omega
    | succ fuel ih =>
      intro j f hj hf
      refine ld_i2 (np := 3) dX7_starts_2 rfl ?_
      refine wl_bipush (np := 5) (v := nI 40) dX7_starts_3 rfl (by decide) ?_
      refine wl_icmp_ge (np := 8) (tg := 31) dX7_starts_5 rfl rfl (fun c_5 => ?_) (fun c_5 => ?_)
      · rw [nI_leI (by decide) (by omega)] at c_5
        omega
      · refine ld_a0 (np := 9) dX7_starts_8 rfl ?_
        refine wl_getr (np := 12) dX7_starts_9 rfl fl_X7_46 rfl (by assumption) (by assumption) ?_
        refine ld_i2 (np := 13) dX7_starts_12 rfl ?_
        refine ld_a0 (np := 14) dX7_starts_13 rfl ?_
        refine wl_getr (np := 17) dX7_starts_14 rfl fl_X7_7 rfl (by assumption) (by assumption) ?_
        refine wl_bipush (np := 19) (v := nI 40) dX7_starts_17 rfl (by decide) ?_
        refine ld_i1 (np := 20) dX7_starts_19 rfl ?_
        refine wl_imul (np := 21) dX7_starts_20 rfl ?_
        refine ld_i2 (np := 22) dX7_starts_21 rfl ?_
        refine wl_iadd (np := 23) dX7_starts_22 rfl ?_
        refine wl_ialoadN (np := 24) dX7_starts_23 rfl (by first | (simp only [nIm, nIa, ← nI_succ]; exact rfl) | exact nI_z | exact nI_o | exact rfl) (by assumption) (by omega) (by first | decide | omega) ?_
        refine wl_iastoreN (np := 25) dX7_starts_24 rfl (by first | (simp only [nIm, nIa, ← nI_succ]; exact rfl) | exact nI_z | exact nI_o | exact rfl) (by assumption) (by omega) (by first | decide | omega) ?_
        refine inc_2 (np := 28) (v := _ + 1) dX7_starts_25 rfl rfl (by decide) rfl ?_
        refine wl_goto (tg := 2) dX7_starts_28 rfl ?_
        rw [uI_uA, ← nI_succ, gI_uAn (by omega)]
        refine ih (j + 1) _ (by omega) (fun i hi => ?_)
        unfold upF
        by_cases hij : i = j
        · rw [if_pos hij, hij]
        · rw [if_neg hij]
          exact hf i (by omega)
  refine wl_iconst (np := 1) (v := 0) dX7_starts_0 rfl (rfl) ?_
  refine st_i2 (np := 2) dX7_starts_1 rfl (by decide) rfl ?_
  have h := key 40 0 (gI me 148) (by omega) (fun i hi => absurd hi (Nat.not_lt_zero _))
  rw [uA_id] at h
  exact h
end M21
