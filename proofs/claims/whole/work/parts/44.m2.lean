theorem nI_z : (0 : Int32) = nI 0 := rfl
theorem nI_o : (1 : Int32) = nI 1 := rfl
/-! rows written anew -/
theorem uA_uA (me : Mem) (a : Nat) (f g : Nat → Int32) : uA (uA me a f) a g = uA me a g := by
  unfold uA
  congr 1
  funext x
  by_cases h : x = a
  · simp [h]
  · simp [h]
def upF (f : Nat → Int32) (i : Nat) (v : Int32) : Nat → Int32 := fun j => if j = i then v else f j
theorem upF_s (f : Nat → Int32) (i : Nat) (v : Int32) : upF f i v i = v := if_pos rfl
theorem upF_n {f : Nat → Int32} {i j : Nat} {v : Int32} (h : j ≠ i) : upF f i v j = f j := if_neg h
theorem uI_uA (me : Mem) (a i : Nat) (f : Nat → Int32) (v : Int32) : uI (uA me a f) a i v = uA me a (upF f i v) := by
  refine Prod.ext (funext fun x => funext fun y => ?_) rfl
  show gI (uI (uA me a f) a i v) x y = gI (uA me a (upF f i v)) x y
  rw [gI_uI, gI_uA, gI_uA]
  by_cases h : x = a
  · subst h
    simp [upF]
  · simp [h]
theorem uI_eq (me : Mem) (a i : Nat) (v : Int32) : uI me a i v = uA me a (upF (gI me a) i v) := by
  refine Prod.ext (funext fun x => funext fun y => ?_) rfl
  show gI (uI me a i v) x y = gI (uA me a (upF (gI me a) i v)) x y
  rw [gI_uI, gI_uA]
  by_cases h : x = a
  · subst h
    simp [upF]
  · simp [h]
theorem uA_id (me : Mem) (a : Nat) : uA me a (gI me a) = me := by
  refine Prod.ext (funext fun x => funext fun y => ?_) rfl
  show gI (uA me a (gI me a)) x y = gI me x y
  rw [gI_uA]
  by_cases h : x = a
  · subst h
    simp
  · simp [h]
theorem gI_uAs (me : Mem) (a : Nat) (f : Nat → Int32) : gI (uA me a f) a = f := funext fun b => by rw [gI_uA, if_pos rfl]
theorem gI_uAn {me : Mem} {a x : Nat} {f : Nat → Int32} (h : x ≠ a) : gI (uA me a f) x = gI me x := funext fun b => by rw [gI_uA, if_neg h]
def grF (N : Nat → Int32) (p i : Nat) : Nat → Int32 := fun j => if 40 * p + 8 ≤ j ∧ j < 40 * p + 8 + 4 * i ∧ (j - (40 * p + 8)) % 4 = 1 then growI (N j) (N (j + 1)) else N j
section M2
variable {sh : List Shp} {me : Mem} {d : Nat} {S : St}
set_option maxHeartbeats 4000000 in
set_option maxRecDepth 100000 in
theorem c_M_rests {A p : Nat} {P : Prs} (z0 : sh[136]? = some (.inl 7)) (gs : gR me 136 3 = some A) (xA : sh[A]? = some (.inr (0, 200))) (g4 : gR me 136 4 = some 139) (x4 : sh[139]? = some (.inr (0, 25))) (hA : A = 137 ∨ A = 138) (hq : RepQ (gI me A) p P) (ht : RepT (gI me 139) p P) (hp : p < 5) (hok : okR P) (hd : 1 ≤ d) : CV d mX7_rests sh [.ref 136, .int (nI p)] me (fun m => ∃ f, m = uA me A f ∧ (∀ i, ¬ (40 * p ≤ i ∧ i < 40 * p + 40) → f i = gI me A i) ∧ RepQ f p (restP P)) := by
  obtain ⟨kk, dy, hok, hkd⟩ := hok
  have htb := taxOf_b hok hq.2.2.2.2.1
  obtain ⟨o1, o2, o3, o4, o5⟩ := hok
  obtain ⟨h1, h2, h3, h4, h5, h6, h7, h8⟩ := hq
  have hsum : sumF (fun c => gI me 139 (5 * p + (gI me A (40 * p + 8 + 4 * c)).toNatClampNeg)) P.2.1.length = taxOf P := sumF_eq _ _ _ (fun c co hc => by
    obtain ⟨l, hl, e⟩ := (o4 co (List.mem_of_getElem? hc)).1
    rw [(h8 c co hc).1, e, nI_clamp (by omega)]
    exact ht l hl)
  have fin : ∀ L4 v, v = purseI P.1.1 P.1.2.1 (taxOf P) → Wa mX7_rests (0, fun _ => 0) d 0 0 sh.length (PV sh (fun m => ∃ f, m = uA me A f ∧ (∀ i, ¬ (40 * p ≤ i ∧ i < 40 * p + 40) → f i = gI me A i) ∧ RepQ f p (restP P))) 141 L4 [.int v, .int (nI (40 * p)), .ref A] sh (uA me A (grF (gI me A) p P.2.1.length)) 0 0 := by
    intro L4 v hv
    refine wl_iastoreN (np := 142) dX7_rests_141 rfl (by first | (simp only [nIm, nIa, ← nI_succ]; exact rfl) | exact nI_z | exact nI_o | exact rfl) (by assumption) (by omega) (by decide) ?_
    refine wv_ret dX7_rests_142 rfl (Nat.le_refl _) (Nat.le_refl _) ?_
    refine ⟨_, uI_uA _ _ _ _ _, fun i hi => ?_, ?_⟩
    · rw [upF_n (by omega)]
      unfold grF
      rw [if_neg (by omega)]
    · have hl : (restP P).2.1.length = P.2.1.length := by simp [restP]
      refine ⟨?_, ?_, ?_, ?_, by omega, ?_, ?_, fun c co hc => ?_⟩
      · rw [upF_s]; exact hv
      · rw [upF_n (by omega)]; unfold grF; rw [if_neg (by omega)]; exact h2
      · rw [upF_n (by omega)]; unfold grF; rw [if_neg (by omega)]; exact h3
      · rw [upF_n (by omega)]; unfold grF; rw [if_neg (by omega), hl]; exact h4
      · rw [upF_n (by omega)]; unfold grF; rw [if_neg (by omega)]; exact h6
      · rw [upF_n (by omega)]; unfold grF; rw [if_neg (by omega)]; exact h7
      · simp only [restP, List.getElem?_map] at hc
        obtain ⟨co', hco', rfl⟩ := Option.map_eq_some_iff.mp hc
        have hlt := (List.getElem?_eq_some_iff.mp hco').1
        obtain ⟨e1, e2, e3, e4⟩ := h8 c co' hco'
        refine ⟨?_, ?_, ?_, ?_⟩
        · rw [upF_n (by omega)]; unfold grF; rw [if_neg (by omega)]; exact e1
        · rw [upF_n (by omega)]; unfold grF; rw [if_pos (by omega), e2, show 40 * p + 8 + 4 * c + 1 + 1 = 40 * p + 8 + 4 * c + 2 by omega, e3]; rfl
        · rw [upF_n (by omega)]; unfold grF; rw [if_neg (by omega)]; exact e3
        · rw [upF_n (by omega)]; unfold grF; rw [if_neg (by omega)]; exact e4
  have key : ∀ fuel i, P.2.1.length - i < fuel → i ≤ P.2.1.length → ∀ v5, v5.category = 1 → Wa mX7_rests (0, fun _ => 0) d 0 0 sh.length (PV sh (fun m => ∃ f, m = uA me A f ∧ (∀ i, ¬ (40 * p ≤ i ∧ i < 40 * p + 40) → f i = gI me A i) ∧ RepQ f p (restP P))) 10 [.ref 136, .int (nI p), .int (nI (40 * p)), .int (sumF (fun c => gI me 139 (5 * p + (gI me A (40 * p + 8 + 4 * c)).toNatClampNeg)) i), .int (nI i), v5] [] sh (uA me A (grF (gI me A) p i)) 0 0 := by
    intro fuel
    induction fuel with
    | zero => intro i h; omega
    | succ fuel ih =>
      intro i hi hin v5 hv5
      have k3 : gI (uA me A (grF (gI me A) p i)) A (40 * p + 3) = nI P.2.1.length := by rw [gI_uAs]; unfold grF; rw [if_neg (by omega)]; exact h4
      refine ld_i4 (np := 12) dX7_rests_10 rfl ?_
      refine ld_a0 (np := 13) dX7_rests_12 rfl ?_
      refine wl_getr (np := 16) dX7_rests_13 rfl fl_X7_16 rfl (by assumption) (by assumption) ?_
      refine ld_i2 (np := 17) dX7_rests_16 rfl ?_
      refine wl_iconst (np := 18) (v := nI 3) dX7_rests_17 rfl (rfl) ?_
      refine wl_iadd (np := 19) dX7_rests_18 rfl ?_
      refine wl_ialoadN (np := 20) dX7_rests_19 rfl (by first | (simp only [nIm, nIa, ← nI_succ]; exact rfl) | exact nI_z | exact nI_o | exact rfl) (by assumption) (by omega) (by decide) ?_
      refine wl_icmp_ge (np := 23) (tg := 103) dX7_rests_20 rfl rfl (fun c_20 => ?_) (fun c_20 => ?_)
      · rw [k3, nI_le_iff (by omega) (by omega)] at c_20
        have hie : i = P.2.1.length := by omega
        subst hie
        have k0 : gI (uA me A (grF (gI me A) p P.2.1.length)) A (40 * p) = P.1.1 := by rw [gI_uAs]; unfold grF; rw [if_neg (by omega)]; exact h1
        have k1 : gI (uA me A (grF (gI me A) p P.2.1.length)) A (40 * p + 1) = P.1.2.1 := by rw [gI_uAs]; unfold grF; rw [if_neg (by omega)]; exact h2
        have hpe := purse_eq o1.1 (by omega) o2.1 o2.2 htb.1 (by omega)
        refine ld_a0 (np := 104) dX7_rests_103 rfl ?_
        refine wl_getr (np := 107) dX7_rests_104 rfl fl_X7_16 rfl (by assumption) (by assumption) ?_
        refine ld_i2 (np := 108) dX7_rests_107 rfl ?_
        refine wl_ialoadN (np := 109) dX7_rests_108 rfl (by first | (simp only [nIm, nIa, ← nI_succ]; exact rfl) | exact nI_z | exact nI_o | exact rfl) (by assumption) (by omega) (by decide) ?_
        refine ld_a0 (np := 110) dX7_rests_109 rfl ?_
        refine wl_getr (np := 113) dX7_rests_110 rfl fl_X7_16 rfl (by assumption) (by assumption) ?_
        refine ld_i2 (np := 114) dX7_rests_113 rfl ?_
        refine wl_iconst (np := 115) (v := 1) dX7_rests_114 rfl (rfl) ?_
        refine wl_iadd (np := 116) dX7_rests_115 rfl ?_
        refine wl_ialoadN (np := 117) dX7_rests_116 rfl (by first | (simp only [nIm, nIa, ← nI_succ]; exact rfl) | exact nI_z | exact nI_o | exact rfl) (by assumption) (by omega) (by decide) ?_
        refine wl_iadd (np := 118) dX7_rests_117 rfl ?_
        refine ld_i3 (np := 119) dX7_rests_118 rfl ?_
        refine wl_isub (np := 120) dX7_rests_119 rfl ?_
        refine st_i4 (np := 122) dX7_rests_120 rfl (by decide) rfl ?_
        refine ld_a0 (np := 123) dX7_rests_122 rfl ?_
        refine wl_getr (np := 126) dX7_rests_123 rfl fl_X7_16 rfl (by assumption) (by assumption) ?_
        refine ld_i2 (np := 127) dX7_rests_126 rfl ?_
        refine ld_i4 (np := 129) dX7_rests_127 rfl ?_
        refine wl_if_ge (np := 132) (tg := 136) dX7_rests_129 rfl rfl (fun c_129 => ?_) (fun c_129 => ?_)
        · rw [k0, k1, hsum] at c_129
          rw [if_neg (Int32.not_lt.mpr c_129)] at hpe
          refine ld_i4 (np := 138) dX7_rests_136 rfl ?_
          refine ciS_1 (np := 141) dX7_rests_138 rfl lk_X7_155 (Nat.le_of_ble_eq_true rfl) (by omega) (Nat.le_refl _) (Nat.le_refl _) (c_M_most _) (fun x_138 m_138 h_138 => ?_)
          obtain ⟨rfl, q_138⟩ := h_138
          have q_138 := q_138.symm
          subst q_138
          refine fin _ _ ?_
          rw [k0, k1, hsum]
          exact hpe
        · rw [k0, k1, hsum] at c_129
          rw [if_pos (Int32.not_le.mp c_129)] at hpe
          refine wl_iconst (np := 133) (v := 0) dX7_rests_132 rfl (rfl) ?_
          refine wl_goto (tg := 141) dX7_rests_133 rfl ?_
          exact fin _ _ hpe
      · rw [k3, nI_le_iff (by omega) (by omega)] at c_20
        obtain ⟨co, hco⟩ : ∃ co, P.2.1[i]? = some co := ⟨_, List.getElem?_eq_getElem (by omega)⟩
        obtain ⟨e1, e2, e3, e4⟩ := h8 i co hco
        obtain ⟨l, hl, el⟩ := (o4 co (List.mem_of_getElem? hco)).1
        refine ld_i2 (np := 24) dX7_rests_23 rfl ?_
        refine wl_bipush (np := 26) (v := nI 8) dX7_rests_24 rfl (by decide) ?_
        refine wl_iadd (np := 27) dX7_rests_26 rfl ?_
        refine wl_iconst (np := 28) (v := nI 4) dX7_rests_27 rfl (rfl) ?_
        refine ld_i4 (np := 30) dX7_rests_28 rfl ?_
        refine wl_imul (np := 31) dX7_rests_30 rfl ?_
        refine wl_iadd (np := 32) dX7_rests_31 rfl ?_
        refine st_i5 (np := 34) dX7_rests_32 rfl (by decide) rfl ?_
        refine ld_a0 (np := 35) dX7_rests_34 rfl ?_
        refine wl_getr (np := 38) dX7_rests_35 rfl fl_X7_16 rfl (by assumption) (by assumption) ?_
        refine ld_i5 (np := 40) dX7_rests_38 rfl ?_
        refine wl_iconst (np := 41) (v := 1) dX7_rests_40 rfl (rfl) ?_
        refine wl_iadd (np := 42) dX7_rests_41 rfl ?_
        refine ld_a0 (np := 43) dX7_rests_42 rfl ?_
        refine wl_getr (np := 46) dX7_rests_43 rfl fl_X7_16 rfl (by assumption) (by assumption) ?_
        refine ld_i5 (np := 48) dX7_rests_46 rfl ?_
        refine wl_iconst (np := 49) (v := 1) dX7_rests_48 rfl (rfl) ?_
        refine wl_iadd (np := 50) dX7_rests_49 rfl ?_
        refine wl_ialoadN (np := 51) dX7_rests_50 rfl (by first | (simp only [nIm, nIa, ← nI_succ]; exact rfl) | exact nI_z | exact nI_o | exact rfl) (by assumption) (by omega) (by decide) ?_
        refine ld_a0 (np := 52) dX7_rests_51 rfl ?_
        refine wl_getr (np := 55) dX7_rests_52 rfl fl_X7_16 rfl (by assumption) (by assumption) ?_
        refine ld_i5 (np := 57) dX7_rests_55 rfl ?_
        refine wl_iconst (np := 58) (v := 1) dX7_rests_57 rfl (rfl) ?_
        refine wl_iadd (np := 59) dX7_rests_58 rfl ?_
        refine wl_ialoadN (np := 60) dX7_rests_59 rfl (by first | (simp only [nIm, nIa, ← nI_succ]; exact rfl) | exact nI_z | exact nI_o | exact rfl) (by assumption) (by omega) (by decide) ?_
        refine ld_a0 (np := 61) dX7_rests_60 rfl ?_
        refine wl_getr (np := 64) dX7_rests_61 rfl fl_X7_16 rfl (by assumption) (by assumption) ?_
        refine ld_i5 (np := 66) dX7_rests_64 rfl ?_
        refine wl_iconst (np := 67) (v := nI 2) dX7_rests_66 rfl (rfl) ?_
        refine wl_iadd (np := 68) dX7_rests_67 rfl ?_
        refine wl_ialoadN (np := 69) dX7_rests_68 rfl (by first | (simp only [nIm, nIa, ← nI_succ]; exact rfl) | exact nI_z | exact nI_o | exact rfl) (by assumption) (by omega) (by decide) ?_
        refine wl_imul (np := 70) dX7_rests_69 rfl ?_
        refine wl_bipush (np := 72) (v := nI 100) dX7_rests_70 rfl (by decide) ?_
        refine wl_idiv (np := 73) dX7_rests_72 rfl (by decide) ?_
        refine wl_iadd (np := 74) dX7_rests_73 rfl ?_
        refine ciS_1 (np := 77) dX7_rests_74 rfl lk_X7_155 (Nat.le_of_ble_eq_true rfl) (by omega) (Nat.le_refl _) (Nat.le_refl _) (c_M_most _) (fun x_74 m_74 h_74 => ?_)
        obtain ⟨rfl, q_74⟩ := h_74
        have q_74 := q_74.symm
        subst q_74
        refine wl_iastoreN (np := 78) dX7_rests_77 rfl (by first | (simp only [nIm, nIa, ← nI_succ]; exact rfl) | exact nI_z | exact nI_o | exact rfl) (by assumption) (by omega) (by decide) ?_
        rw [uI_uA]
        have hg : upF (grF (gI me A) p i) (40 * p + 8 + 4 * i + 1) (minI (gI (uA me A (grF (gI me A) p i)) A (40 * p + 8 + 4 * i + 1) + gI (uA me A (grF (gI me A) p i)) A (40 * p + 8 + 4 * i + 1) * gI (uA me A (grF (gI me A) p i)) A (40 * p + 8 + 4 * i + 2) / nI 100) 999999) = grF (gI me A) p (i + 1) := by
          rw [gI_uAs]
          funext j
          have y1 : grF (gI me A) p i (40 * p + 8 + 4 * i + 1) = gI me A (40 * p + 8 + 4 * i + 1) := by unfold grF; rw [if_neg (by omega)]
          have y2 : grF (gI me A) p i (40 * p + 8 + 4 * i + 2) = gI me A (40 * p + 8 + 4 * i + 2) := by unfold grF; rw [if_neg (by omega)]
          rw [y1, y2]
          by_cases hj : j = 40 * p + 8 + 4 * i + 1
          · subst hj
            rw [upF_s]
            unfold grF
            rw [if_pos (by omega)]
            rfl
          · rw [upF_n hj]
            unfold grF
            exact if_iff (by omega)
        rw [hg]
        have hl2 : gI (uA me A (grF (gI me A) p (i + 1))) A (40 * p + 8 + 4 * i) = nI l := by rw [gI_uAs]; unfold grF; rw [if_neg (by omega), e1, el]
        have ht2 : gI (uA me A (grF (gI me A) p (i + 1))) 139 (5 * p + l) = gI me 139 (5 * p + (gI me A (40 * p + 8 + 4 * i)).toNatClampNeg) := by
          rw [gI_uAn (by omega), e1, el, nI_clamp (by omega)]
        refine ld_i3 (np := 79) dX7_rests_78 rfl ?_
        refine ld_a0 (np := 80) dX7_rests_79 rfl ?_
        refine wl_getr (np := 83) dX7_rests_80 rfl fl_X7_19 rfl (by assumption) (by assumption) ?_
        refine wl_iconst (np := 84) (v := nI 5) dX7_rests_83 rfl (rfl) ?_
        refine ld_i1 (np := 85) dX7_rests_84 rfl ?_
        refine wl_imul (np := 86) dX7_rests_85 rfl ?_
        refine ld_a0 (np := 87) dX7_rests_86 rfl ?_
        refine wl_getr (np := 90) dX7_rests_87 rfl fl_X7_16 rfl (by assumption) (by assumption) ?_
        refine ld_i5 (np := 92) dX7_rests_90 rfl ?_
        refine wl_ialoadN (np := 93) dX7_rests_92 rfl (by first | (simp only [hl2,nIm, nIa, ← nI_succ]; exact rfl) | exact nI_z | exact nI_o | exact rfl) (by assumption) (by omega) (by decide) ?_
        refine wl_iadd (np := 94) dX7_rests_93 rfl ?_
        refine wl_ialoadN (np := 95) dX7_rests_94 rfl (by first | (simp only [hl2,nIm, nIa, ← nI_succ]; exact rfl) | exact nI_z | exact nI_o | exact rfl) (by assumption) (by omega) (by decide) ?_
        refine wl_iadd (np := 96) dX7_rests_95 rfl ?_
        refine st_i3 (np := 97) dX7_rests_96 rfl (by decide) rfl ?_
        refine inc_4 (np := 100) (v := _ + 1) dX7_rests_97 rfl rfl (by decide) rfl ?_
        refine wl_goto (tg := 10) dX7_rests_100 rfl ?_
        rw [ht2, ← nI_succ]
        exact ih (i + 1) (by omega) (by omega) _ rfl
  refine CV.mk (L := [.ref 136, .int (nI p), .float 0, .float 0, .float 0, .float 0]) (by decide) (Nat.le_of_ble_eq_true rfl) rfl ?_
  refine wl_bipush (np := 2) (v := nI 40) dX7_rests_0 rfl (by decide) ?_
  refine ld_i1 (np := 3) dX7_rests_2 rfl ?_
  refine wl_imul (np := 4) dX7_rests_3 rfl ?_
  refine st_i2 (np := 5) dX7_rests_4 rfl (by decide) rfl ?_
  refine wl_iconst (np := 6) (v := 0) dX7_rests_5 rfl (rfl) ?_
  refine st_i3 (np := 7) dX7_rests_6 rfl (by decide) rfl ?_
  refine wl_iconst (np := 8) (v := 0) dX7_rests_7 rfl (rfl) ?_
  refine st_i4 (np := 10) dX7_rests_8 rfl (by decide) rfl ?_
  simp only [nIa, nIm]
  have hg0 : uA me A (grF (gI me A) p 0) = me := by
    have : grF (gI me A) p 0 = gI me A := by funext j; unfold grF; rw [if_neg (by omega)]
    rw [this, uA_id]
  have := key (P.2.1.length + 1) 0 (by omega) (by omega) (.float 0) rfl
  rw [hg0] at this
  exact this
end M2
