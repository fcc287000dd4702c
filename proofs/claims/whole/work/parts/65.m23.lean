section M23
variable {sh : List Shp} {me m m' : Mem} {d n p kk dy : Nat} {S : St} {P : Prs} {B : Bpl}
/-- only what is for trying has changed -/
def BfS (me m : Mem) : Prop := RfM me m ∧ (∀ b, b ≠ 19 → b ≠ 20 → gI m 136 b = gI me 136 b) ∧ ∀ a, a ≠ 136 → a ≠ 138 → a ≠ 146 → a ≠ 147 → gI m a = gI me a
theorem BfS.tr (h : BfS me m) (h' : BfS m m') : BfS me m' := ⟨h.1.tr h'.1, fun b h1 h2 => (h'.2.1 b h1 h2).trans (h.2.1 b h1 h2), fun a h1 h2 h3 h4 => (h'.2.2 a h1 h2 h3 h4).trans (h.2.2 a h1 h2 h3 h4)⟩
theorem BfS.rf : BfS me me := ⟨RfM.of rfl, fun _ _ _ => rfl, fun _ _ _ _ _ => rfl⟩
theorem BfS.o {g : Nat → Int32} : BfS me (uA me 146 g) := ⟨RfM.of rfl, fun b _ _ => congrFun (gI_uAn (by omega)) b, fun a _ _ h _ => gI_uAn h⟩
theorem BfS.b {g : Nat → Int32} : BfS me (uA me 147 g) := ⟨RfM.of rfl, fun b _ _ => congrFun (gI_uAn (by omega)) b, fun a _ _ _ h => gI_uAn h⟩
theorem BfS.pdd {x : Int32} : BfS me (uI me 136 20 x) := ⟨RfM.of rfl, fun b _ h => gI_uI_nb h, fun a h _ _ _ => gI_uI_ne h⟩
theorem BfS.f {f : Nat → Int32} {pd : Int32} : BfS me (frM me f pd) := ⟨rfm_now (r := some 138) rfl (Or.inr rfl), fun b h _ => frM_b h, fun a h1 h2 _ _ => frM_o h1 h2⟩
theorem BfS.fx (h : BfS me m) (hF : FixM sh me) : FixM sh m := hF.of h.1
def RBst (m : Mem) (n : Nat) (B : Bpl) : Prop := B.1 ≤ 361 ∧ (B.1 < 361 → gI m 136 20 = B.2.1 ∧ B.2.2.length = n ∧ ∀ k, k < n → gI m 147 k = nI (lf B.2.2 k))
theorem okO_lt {n : Nat} : ∀ (o : List Nat) (m : Nat) (pre : List Nat), okO n m pre o = true → ∀ c ∈ o, c < n
  | [], _, _, _, c, hc => by cases hc
  | c0 :: o, m, pre, h, c, hc => by
    obtain ⟨h1, -, -, -, h5⟩ := okO_cons h
    rcases List.mem_cons.mp hc with rfl | hc
    · exact h1
    · exact okO_lt o _ _ h5 c hc
theorem lf_lt {n : Nat} {o : List Nat} (hn : n ≤ 6) (h : ∀ c ∈ o, c < n) (i : Nat) : lf o i < 6 := by
  unfold lf
  rw [List.getD_eq_getElem?_getD]
  by_cases hi : i < o.length
  · rw [List.getElem?_eq_getElem hi]
    have := h _ (List.getElem_mem hi)
    show o[i] < 6
    omega
  · rw [List.getElem?_eq_none (by omega)]
    show 0 < 6
    omega
theorem lf_map {n i : Nat} {F : Nat → Nat} (hi : i < n) : lf ((List.range n).map F) i = F i := by
  unfold lf
  rw [List.getD_eq_getElem?_getD, List.getElem?_map, List.getElem?_range hi]
  rfl
theorem lf_range {n i : Nat} (hi : i < n) : lf (List.range n) i = i := by
  unfold lf
  rw [List.getD_eq_getElem?_getD, List.getElem?_range hi]
  rfl
set_option maxHeartbeats 4000000 in
set_option maxRecDepth 100000 in
theorem c_M_bestFree {off : Int32} (hF : FixM sh me) (hs : RepQ (gI me 148) 0 P) (ht : RepT (gI me 139) p P) (hp : p < 5) (hn : P.2.1.length ≤ 6) (hok : okPr kk dy P) (hkd : 10000 * kk + 99 * (dy + 361) ≤ 900000) (hoff : gI me 141 0 = off) (hd : 3 ≤ d) : CI d mX7_bestFree sh [.ref 136, .int (nI p)] me (fun x m => x = nI (planS P off).1 ∧ BfS me m ∧ RBst m P.2.1.length (planS P off)) := by
  have hFs := hF
  obtain ⟨z0, ⟨x1, x2, x4, x5, x6, x10, x11, x12, x16, x17, x18, x21, x22, x24, x25, x26, x27⟩, ⟨g1, g2, g4, g5, g6, g10, g11, g12, g16, g17, g18, g21, g22, g24, g25, g26, g27⟩, gs⟩ := hF
  have h3 : gI me 148 3 = nI P.2.1.length := hs.2.2.2.1
  refine CI.mk (L := [.ref 136, .int (nI p), .float 0, .float 0, .float 0, .float 0, .float 0, .float 0]) (by decide) (Nat.le_of_ble_eq_true rfl) rfl ?_
  have hpl : planS P off = foldB [] (fun o => sim (rOf P) (tOf P) P.1.2.1 P.2.1.length o (2 ^ P.2.1.length - 1) 0 P.1.1 (aOf P) 0) (361, 0, []) ((allO P.2.1.length (2 ^ P.2.1.length - 1)).filter (lawL (offZ off) P.2.1.length)) := by
    unfold planS
    rw [comp_eq off hn]
  generalize hres : (fun o => sim (rOf P) (tOf P) P.1.2.1 P.2.1.length o (2 ^ P.2.1.length - 1) 0 P.1.1 (aOf P) 0) = res at hpl
  have key : ∀ fu (l : List (List Nat)), l.length < fu → ∀ (o : List Nat) (m : Mem) (B : Bpl), BfS me m → (∀ i, i < P.2.1.length → gI m 146 i = nI (lf o i)) → foldB [] res B ((o :: l).filter (lawL (offZ off) P.2.1.length)) = planS P off → chkO P.2.1.length o l = true → (∀ o' ∈ o :: l, o'.length = P.2.1.length ∧ okO P.2.1.length (2 ^ P.2.1.length - 1) [] o' = true) → RBst m P.2.1.length B → ∀ w5 w6 w7, Wa mX7_bestFree (0, fun _ => 0) d 0 0 sh.length (PI sh (fun x m => x = nI (planS P off).1 ∧ BfS me m ∧ RBst m P.2.1.length (planS P off))) 38 [.ref 136, .int (nI p), .int (nI P.2.1.length), .int (nI B.1), .int 1, w5, w6, w7] [] sh m 0 0 := by
    intro fu
    induction fu with
    | zero => intro l h; omega
    | succ fu ih =>
      intro l hl o m B hB hO hfo hch hall hrb w5 w6 w7
      have hallo := hall o List.mem_cons_self
      have hlt := okO_lt o _ _ hallo.2
      have hlf := lf_lt hn hlt
      -- the next order
      have k148 : ∀ (m : Mem) (B : Bpl), BfS me m → (∀ i, i < P.2.1.length → gI m 146 i = nI (lf o i)) → foldB [] res B (l.filter (lawL (offZ off) P.2.1.length)) = planS P off → RBst m P.2.1.length B → ∀ w5 w6 w7, Wa mX7_bestFree (0, fun _ => 0) d 0 0 sh.length (PI sh (fun x m => x = nI (planS P off).1 ∧ BfS me m ∧ RBst m P.2.1.length (planS P off))) 148 [.ref 136, .int (nI p), .int (nI P.2.1.length), .int (nI B.1), .int 1, w5, w6, w7] [] sh m 0 0 := by
        intro m B hB hO hfo hrb w5 w6 w7
        have hFm := hB.fx hFs
        refine ld_a0 (np := 149) dX7_bestFree_148 rfl ?_
        refine ld_i2 (np := 150) dX7_bestFree_149 rfl ?_
        refine ciV_1 (np := 153) dX7_bestFree_150 rfl lk_X7_204 (by assumption) (Nat.le_of_ble_eq_true rfl) (by omega) (Nat.le_refl _) (Nat.le_refl _) (c_M_turns z0 hFm.2.2.1.2.2.2.2.2.2.2.2.2.1 x17 hn hO (fun i _ => hlf i)) (fun x_150 m_150 h_150 => ?_)
        unfold TrM at h_150
        match l, hl, hfo, hch, hall with
        | [], hl, hfo, hch, hall =>
          unfold chkO at hch
          rw [beq_iff_eq] at hch
          unfold turnsL at hch
          cases hk : tK (lf o) (P.2.1.length - 1) with
          | some k => rw [hk] at hch; cases hch
          | none =>
            rw [hk] at h_150
            obtain ⟨rfl, rfl⟩ := h_150
            have hfo : B = planS P off := hfo
            refine st_i4 (np := 155) dX7_bestFree_153 rfl (by decide) rfl ?_
            refine wl_goto (tg := 38) dX7_bestFree_155 rfl ?_
            refine ld_i4 (np := 40) dX7_bestFree_38 rfl ?_
            refine wl_if_eq (np := 43) (tg := 158) dX7_bestFree_40 rfl rfl (fun c_40 => ?_) (fun c_40 => ?_)
            · refine ld_i3 (np := 159) dX7_bestFree_158 rfl ?_
              refine wi_ret dX7_bestFree_159 rfl (rfl) (Nat.le_refl _) (Nat.le_refl _) ?_
              rw [← hfo]
              exact ⟨rfl, hB, hrb⟩
            · exact absurd rfl c_40
        | o' :: l', hl, hfo, hch, hall =>
          unfold chkO at hch
          rw [Bool.and_eq_true, beq_iff_eq] at hch
          obtain ⟨ht1, hch⟩ := hch
          unfold turnsL at ht1
          cases hk : tK (lf o) (P.2.1.length - 1) with
          | none => rw [hk] at ht1; cases ht1
          | some k =>
            rw [hk] at h_150 ht1
            have ht1 : (List.range P.2.1.length).map (nxt (lf o) P.2.1.length k) = o' := Option.some.inj ht1
            obtain ⟨rfl, g, rfl, hg⟩ := h_150
            refine st_i4 (np := 155) dX7_bestFree_153 rfl (by decide) rfl ?_
            refine wl_goto (tg := 38) dX7_bestFree_155 rfl ?_
            refine ih l' (by rw [List.length_cons] at hl; omega) o' _ B (hB.tr BfS.o) (fun i hi => ?_) hfo hch (fun o2 h2 => hall o2 (List.mem_cons_of_mem _ h2)) ?_ _ _ _
            · rw [gI_uAs, hg i hi, ← ht1, lf_map hi]
            · refine ⟨hrb.1, fun h => ?_⟩
              obtain ⟨r1, r2, r3⟩ := hrb.2 h
              exact ⟨(congrFun (gI_uAn (by omega)) 20).trans r1, r2, fun k hk => (congrFun (gI_uAn (by omega)) k).trans (r3 k hk)⟩
      -- it is no better
      have k100 : ∀ (m : Mem) (B : Bpl) (w5 : Int32), BfS me m → (∀ i, i < P.2.1.length → gI m 146 i = nI (lf o i)) → foldB [] res B (l.filter (lawL (offZ off) P.2.1.length)) = planS P off → RBst m P.2.1.length B → ∀ w6 w7, Wa mX7_bestFree (0, fun _ => 0) d 0 0 sh.length (PI sh (fun x m => x = nI (planS P off).1 ∧ BfS me m ∧ RBst m P.2.1.length (planS P off))) 100 [.ref 136, .int (nI p), .int (nI P.2.1.length), .int (nI B.1), .int 1, .int w5, w6, w7] [] sh m 0 0 := by
        intro m B w5 hB hO hfo hrb w6 w7
        refine wl_iconst (np := 101) (v := 0) dX7_bestFree_100 rfl (rfl) ?_
        refine st_i6 (np := 103) dX7_bestFree_101 rfl (by decide) rfl ?_
        refine ld_i6 (np := 105) dX7_bestFree_103 rfl ?_
        refine wl_if_eq (np := 108) (tg := 148) dX7_bestFree_105 rfl rfl (fun c_105 => ?_) (fun c_105 => ?_)
        · exact k148 m B hB hO hfo hrb _ _ _
        · exact absurd rfl c_105
      have k96 : ∀ (m : Mem) (dy' : Nat) (B3 : Int32), dy' ≤ 360 → BfS me m → (∀ i, i < P.2.1.length → gI m 146 i = nI (lf o i)) → foldB [] res (dy', gI m 136 19, o) (l.filter (lawL (offZ off) P.2.1.length)) = planS P off → ∀ w6 w7, Wa mX7_bestFree (0, fun _ => 0) d 0 0 sh.length (PI sh (fun x m => x = nI (planS P off).1 ∧ BfS me m ∧ RBst m P.2.1.length (planS P off))) 96 [.ref 136, .int (nI p), .int (nI P.2.1.length), .int B3, .int 1, .int (nI dy'), w6, w7] [] sh m 0 0 := by
        intro m dy' B3 hdy hB hO hfo w6 w7
        have hFm := hB.fx hFs
        have g17m := hFm.2.2.1.2.2.2.2.2.2.2.2.2.1
        have g18m := hFm.2.2.1.2.2.2.2.2.2.2.2.2.2.1
        have kl : ∀ fu2 j (g : Nat → Int32), j + fu2 = P.2.1.length → (∀ i, i < j → g i = nI (lf o i)) → Wa mX7_bestFree (0, fun _ => 0) d 0 0 sh.length (PI sh (fun x m => x = nI (planS P off).1 ∧ BfS me m ∧ RBst m P.2.1.length (planS P off))) 122 [.ref 136, .int (nI p), .int (nI P.2.1.length), .int (nI dy'), .int 1, .int (nI dy'), .int 1, .int (nI j)] [] sh (uA (uI m 136 20 (gI m 136 19)) 147 g) 0 0 := by
          intro fu2
          induction fu2 with
          | zero =>
            intro j g hj hg
            refine ld_i7 (np := 124) dX7_bestFree_122 rfl ?_
            refine ld_i2 (np := 125) dX7_bestFree_124 rfl ?_
            refine wl_icmp_ge (np := 128) (tg := 148) dX7_bestFree_125 rfl rfl (fun c_125 => ?_) (fun c_125 => ?_)
            · refine k148 _ (dy', gI m 136 19, o) ((hB.tr BfS.pdd).tr BfS.b) (fun i hi => ?_) hfo ⟨by show dy' ≤ 361; omega, fun _ => ⟨?_, hallo.1, fun k hk => ?_⟩⟩ _ _ _
              · rw [gI_uAn (by omega), gI_uI_ne (by omega)]
                exact hO i hi
              · rw [gI_uAn (by omega), gI_uI_self]
              · rw [gI_uAs]
                exact hg k (by omega)
            · rw [nI_leI (by omega) (by omega)] at c_125
              omega
          | succ fu2 ih2 =>
            intro j g hj hg
            refine ld_i7 (np := 124) dX7_bestFree_122 rfl ?_
            refine ld_i2 (np := 125) dX7_bestFree_124 rfl ?_
            refine wl_icmp_ge (np := 128) (tg := 148) dX7_bestFree_125 rfl rfl (fun c_125 => ?_) (fun c_125 => ?_)
            · rw [nI_leI (by omega) (by omega)] at c_125
              omega
            · refine ld_a0 (np := 129) dX7_bestFree_128 rfl ?_
              refine wl_getr (np := 132) dX7_bestFree_129 rfl fl_X7_43 rfl (by assumption) (by assumption) ?_
              refine ld_i7 (np := 134) dX7_bestFree_132 rfl ?_
              refine ld_a0 (np := 135) dX7_bestFree_134 rfl ?_
              refine wl_getr (np := 138) dX7_bestFree_135 rfl fl_X7_40 rfl (by assumption) (by assumption) ?_
              refine ld_i7 (np := 140) dX7_bestFree_138 rfl ?_
              refine wl_ialoadN (np := 141) dX7_bestFree_140 rfl (by first | (simp only [nIm, nIa, ← nI_succ]; exact rfl) | exact nI_z | exact nI_o | exact rfl) (by assumption) (by omega) (by first | decide | omega) ?_
              refine wl_iastoreN (np := 142) dX7_bestFree_141 rfl (by first | (simp only [nIm, nIa, ← nI_succ]; exact rfl) | exact nI_z | exact nI_o | exact rfl) (by assumption) (by omega) (by first | decide | omega) ?_
              refine inc_7 (np := 145) (v := _ + 1) dX7_bestFree_142 rfl rfl (by decide) rfl ?_
              refine wl_goto (tg := 122) dX7_bestFree_145 rfl ?_
              rw [uI_uA, ← nI_succ, gI_uAn (by omega), gI_uI_ne (by omega), hO j (by omega)]
              refine ih2 (j + 1) _ (by omega) (fun i hi => ?_)
              unfold upF
              by_cases hij : i = j
              · rw [if_pos hij, hij]
              · rw [if_neg hij]
                exact hg i (by omega)
        refine wl_iconst (np := 97) (v := 1) dX7_bestFree_96 rfl (rfl) ?_
        refine wl_goto (tg := 101) dX7_bestFree_97 rfl ?_
        refine st_i6 (np := 103) dX7_bestFree_101 rfl (by decide) rfl ?_
        refine ld_i6 (np := 105) dX7_bestFree_103 rfl ?_
        refine wl_if_eq (np := 108) (tg := 148) dX7_bestFree_105 rfl rfl (fun c_105 => ?_) (fun c_105 => ?_)
        · exact absurd c_105 (by decide)
        · refine ld_i5 (np := 110) dX7_bestFree_108 rfl ?_
          refine st_i3 (np := 111) dX7_bestFree_110 rfl (by decide) rfl ?_
          refine ld_a0 (np := 112) dX7_bestFree_111 rfl ?_
          refine ld_a0 (np := 113) dX7_bestFree_112 rfl ?_
          refine wl_geti (np := 116) dX7_bestFree_113 rfl fl_X7_192 (by decide) (by assumption) ?_
          refine wl_puti (np := 119) dX7_bestFree_116 rfl fl_X7_201 nf_7_20 rfl (by assumption) ?_
          refine wl_iconst (np := 120) (v := 0) dX7_bestFree_119 rfl (rfl) ?_
          refine st_i7 (np := 122) dX7_bestFree_120 rfl (by decide) rfl ?_
          have h := kl P.2.1.length 0 (gI (uI m 136 20 (gI m 136 19)) 147) (by omega) (fun i hi => absurd hi (Nat.not_lt_zero _))
          rw [uA_id] at h
          exact h
      -- behind the trying
      have k63N : ∀ (m : Mem), BfS me m → (∀ i, i < P.2.1.length → gI m 146 i = nI (lf o i)) → foldB [] res B (l.filter (lawL (offZ off) P.2.1.length)) = planS P off → RBst m P.2.1.length B → ∀ w5 w6 w7, Wa mX7_bestFree (0, fun _ => 0) d 0 0 sh.length (PI sh (fun x m => x = nI (planS P off).1 ∧ BfS me m ∧ RBst m P.2.1.length (planS P off))) 63 [.ref 136, .int (nI p), .int (nI P.2.1.length), .int (nI B.1), .int 1, w5, w6, w7] [.int (nI 361)] sh m 0 0 := by
        intro m hB hO hfo hrb w5 w6 w7
        have hb1 := hrb.1
        refine st_i5 (np := 65) dX7_bestFree_63 rfl (by decide) rfl ?_
        refine ld_i5 (np := 67) dX7_bestFree_65 rfl ?_
        refine ld_i3 (np := 68) dX7_bestFree_67 rfl ?_
        refine wl_icmp_lt (np := 71) (tg := 96) dX7_bestFree_68 rfl rfl (fun c_68 => ?_) (fun c_68 => ?_)
        · rw [nI_ltI (by decide) (by omega)] at c_68
          omega
        · refine ld_i5 (np := 73) dX7_bestFree_71 rfl ?_
          refine wl_sipush (np := 76) (v := nI 361) dX7_bestFree_73 rfl (by decide) ?_
          refine wl_icmp_ge (np := 79) (tg := 100) dX7_bestFree_76 rfl rfl (fun c_76 => ?_) (fun c_76 => ?_)
          · exact k100 m B _ hB hO hfo hrb _ _
          · exact absurd (Int32.le_refl _) c_76
      have k63S : ∀ (m : Mem) (dy' : Nat), dy' ≤ 360 → BfS me m → (∀ i, i < P.2.1.length → gI m 146 i = nI (lf o i)) → foldB [] res (keepB B dy' (gI m 136 19) o) (l.filter (lawL (offZ off) P.2.1.length)) = planS P off → RBst m P.2.1.length B → ∀ w5 w6 w7, Wa mX7_bestFree (0, fun _ => 0) d 0 0 sh.length (PI sh (fun x m => x = nI (planS P off).1 ∧ BfS me m ∧ RBst m P.2.1.length (planS P off))) 63 [.ref 136, .int (nI p), .int (nI P.2.1.length), .int (nI B.1), .int 1, w5, w6, w7] [.int (nI dy')] sh m 0 0 := by
        intro m dy' hdy hB hO hfo hrb w5 w6 w7
        have hb1 := hrb.1
        unfold keepB at hfo
        refine st_i5 (np := 65) dX7_bestFree_63 rfl (by decide) rfl ?_
        refine ld_i5 (np := 67) dX7_bestFree_65 rfl ?_
        refine ld_i3 (np := 68) dX7_bestFree_67 rfl ?_
        refine wl_icmp_lt (np := 71) (tg := 96) dX7_bestFree_68 rfl rfl (fun c_68 => ?_) (fun c_68 => ?_)
        · rw [nI_ltI (by omega) (by omega)] at c_68
          rw [if_pos (Or.inl c_68)] at hfo
          exact k96 m dy' _ hdy hB hO hfo _ _
        · rw [nI_ltI (by omega) (by omega)] at c_68
          refine ld_i5 (np := 73) dX7_bestFree_71 rfl ?_
          refine wl_sipush (np := 76) (v := nI 361) dX7_bestFree_73 rfl (by decide) ?_
          refine wl_icmp_ge (np := 79) (tg := 100) dX7_bestFree_76 rfl rfl (fun c_76 => ?_) (fun c_76 => ?_)
          · rw [nI_leI (by decide) (by omega)] at c_76
            omega
          · refine ld_i5 (np := 81) dX7_bestFree_79 rfl ?_
            refine ld_i3 (np := 82) dX7_bestFree_81 rfl ?_
            refine wl_icmp_ne (np := 85) (tg := 100) dX7_bestFree_82 rfl rfl (fun c_82 => ?_) (fun c_82 => ?_)
            · rw [nI_eq (by omega) (by omega)] at c_82
              rw [if_neg (fun q => q.elim c_68 (fun q => c_82 q.1))] at hfo
              exact k100 m B _ hB hO hfo hrb _ _
            · rw [nI_eq (by omega) (by omega)] at c_82
              obtain ⟨r1, r2, r3⟩ := hrb.2 (by omega)
              refine ld_a0 (np := 86) dX7_bestFree_85 rfl ?_
              refine wl_geti (np := 89) dX7_bestFree_86 rfl fl_X7_192 (by decide) (by assumption) ?_
              refine ld_a0 (np := 90) dX7_bestFree_89 rfl ?_
              refine wl_geti (np := 93) dX7_bestFree_90 rfl fl_X7_201 (by decide) (by assumption) ?_
              refine wl_icmp_ge (np := 96) (tg := 100) dX7_bestFree_93 rfl rfl (fun c_93 => ?_) (fun c_93 => ?_)
              · rw [r1] at c_93
                rw [if_neg (fun q => q.elim c_68 (fun q => Int32.not_lt.mpr c_93 q.2))] at hfo
                exact k100 m B _ hB hO hfo hrb _ _
              · rw [r1] at c_93
                rw [if_pos (Or.inr ⟨c_82, Int32.not_le.mp c_93⟩)] at hfo
                exact k96 m dy' _ hdy hB hO hfo _ _
      have hFm := hB.fx hFs
      have hoffm : gI m 141 0 = off := by rw [hB.2.2 141 (by omega) (by omega) (by omega) (by omega)]; exact hoff
      have hsm : RepQ (gI m 148) 0 P := by rw [hB.2.2 148 (by omega) (by omega) (by omega) (by omega)]; exact hs
      have htm : RepT (gI m 139) p P := by rw [hB.2.2 139 (by omega) (by omega) (by omega) (by omega)]; exact ht
      rw [List.filter_cons] at hfo
      refine ld_i4 (np := 40) dX7_bestFree_38 rfl ?_
      refine wl_if_eq (np := 43) (tg := 158) dX7_bestFree_40 rfl rfl (fun c_40 => ?_) (fun c_40 => ?_)
      · exact absurd c_40 (by decide)
      · refine ld_a0 (np := 44) dX7_bestFree_43 rfl ?_
        refine ld_i2 (np := 45) dX7_bestFree_44 rfl ?_
        refine ciV_1 (np := 48) dX7_bestFree_45 rfl lk_X7_195 (by assumption) (Nat.le_of_ble_eq_true rfl) (by omega) (Nat.le_refl _) (Nat.le_refl _) (c_M_isLawful z0 hFm.2.2.1.2.2.2.2.2.2.2.2.2.1 x17 hFm.2.2.1.2.2.2.2.1 x6 hoffm hn hO (fun i _ => hlf i)) (fun x_45 m_45 h_45 => ?_)
        obtain ⟨rfl, q_45⟩ := h_45
        have q_45 := q_45.symm
        subst q_45
        refine wl_if_eq (np := 51) (tg := 60) dX7_bestFree_48 rfl rfl (fun c_48 => ?_) (fun c_48 => ?_)
        · have hl0 : ¬ lawL (offZ off) P.2.1.length o = true := if0 c_48
          rw [if_neg hl0] at hfo
          refine wl_sipush (np := 63) (v := nI 361) dX7_bestFree_60 rfl (by decide) ?_
          exact k63N m hB hO hfo hrb _ _ _
        · have hl1 : lawL (offZ off) P.2.1.length o = true := if1 c_48
          rw [if_pos hl1] at hfo
          have hfo : foldB [] res (stepB [] res B o) (l.filter (lawL (offZ off) P.2.1.length)) = planS P off := hfo
          have hro : sim (rOf P) (tOf P) P.1.2.1 P.2.1.length o (2 ^ P.2.1.length - 1) 0 P.1.1 (aOf P) 0 = res o := by rw [← hres]
          refine ld_a0 (np := 52) dX7_bestFree_51 rfl ?_
          refine ld_i1 (np := 53) dX7_bestFree_52 rfl ?_
          refine ld_i2 (np := 54) dX7_bestFree_53 rfl ?_
          refine ciV_2 (np := 57) dX7_bestFree_54 rfl lk_X7_198 (by assumption) (Nat.le_of_ble_eq_true rfl) (by omega) (Nat.le_refl _) (Nat.le_refl _) (c_M_freeBy hFm hsm htm hp hn hallo.1 hallo.2 hO (fun i => Nat.lt_trans (hlf i) (by decide)) hok hkd hro (by omega)) (fun x_54 m_54 h_54 => ?_)
          obtain ⟨f2, pd2, rfl, hx⟩ := h_54
          have hO2 : ∀ i, i < P.2.1.length → gI (frM m f2 pd2) 146 i = nI (lf o i) := fun i hi => by rw [frM_o (by omega) (by omega)]; exact hO i hi
          have hrb2 : RBst (frM m f2 pd2) P.2.1.length B := ⟨hrb.1, fun h => by
            obtain ⟨r1, r2, r3⟩ := hrb.2 h
            exact ⟨(frM_b (by omega)).trans r1, r2, fun k hk => by rw [frM_o (by omega) (by omega)]; exact r3 k hk⟩⟩
          refine wl_goto (tg := 63) dX7_bestFree_57 rfl ?_
          unfold stepB at hfo
          cases hr : res o with
          | none =>
            rw [hr] at hx hfo
            have hx : x_54 = nI 361 := hx
            subst hx
            exact k63N _ (hB.tr BfS.f) hO2 hfo hrb2 _ _ _
          | some q =>
            obtain ⟨dy', pd'⟩ := q
            rw [hr] at hx hfo
            obtain ⟨rfl, rfl⟩ := (show x_54 = nI dy' ∧ pd2 = pd' from hx)
            have hdy := (sim_day _ _ _ _ _ _ _ _ _ _ _ _ (by omega) (hro.trans hr)).2
            refine k63S _ dy' hdy (hB.tr BfS.f) hO2 ?_ hrb2 _ _ _
            rw [frM_p]
            exact hfo
  have kin : ∀ fu j (g : Nat → Int32), j + fu = P.2.1.length → (∀ i, i < j → g i = nI i) → Wa mX7_bestFree (0, fun _ => 0) d 0 0 sh.length (PI sh (fun x m => x = nI (planS P off).1 ∧ BfS me m ∧ RBst m P.2.1.length (planS P off))) 14 [.ref 136, .int (nI p), .int (nI P.2.1.length), .int (nI 361), .int (nI j), .float 0, .float 0, .float 0] [] sh (uA me 146 g) 0 0 := by
    intro fu
    induction fu with
    | zero =>
      intro j g hj hg
      have hfst := all_chain _ hn
      have hmem : ∀ o ∈ allO P.2.1.length (2 ^ P.2.1.length - 1), o.length = P.2.1.length ∧ okO P.2.1.length (2 ^ P.2.1.length - 1) [] o = true := fun o ho => all_mem hn ho
      refine ld_i4 (np := 16) dX7_bestFree_14 rfl ?_
      refine ld_i2 (np := 17) dX7_bestFree_16 rfl ?_
      refine wl_icmp_ge (np := 20) (tg := 35) dX7_bestFree_17 rfl rfl (fun c_17 => ?_) (fun c_17 => ?_)
      · refine wl_iconst (np := 36) (v := 1) dX7_bestFree_35 rfl (rfl) ?_
        refine st_i4 (np := 38) dX7_bestFree_36 rfl (by decide) rfl ?_
        cases hal : allO P.2.1.length (2 ^ P.2.1.length - 1) with
        | nil => rw [hal] at hfst; cases hfst
        | cons o l =>
          rw [hal] at hfst hmem hpl
          unfold fstO at hfst
          rw [Bool.and_eq_true, beq_iff_eq] at hfst
          refine key (l.length + 1) l (by omega) o _ (361, 0, []) BfS.o (fun i hi => ?_) hpl.symm hfst.2 hmem ⟨Nat.le_refl _, fun h => absurd h (Nat.lt_irrefl _)⟩ _ _ _
          rw [gI_uAs, hfst.1, lf_range hi]
          exact hg i (by omega)
      · rw [nI_leI (by omega) (by omega)] at c_17
        omega
    | succ fu ih =>
      intro j g hj hg
      refine ld_i4 (np := 16) dX7_bestFree_14 rfl ?_
      refine ld_i2 (np := 17) dX7_bestFree_16 rfl ?_
      refine wl_icmp_ge (np := 20) (tg := 35) dX7_bestFree_17 rfl rfl (fun c_17 => ?_) (fun c_17 => ?_)
      · rw [nI_leI (by omega) (by omega)] at c_17
        omega
      · refine ld_a0 (np := 21) dX7_bestFree_20 rfl ?_
        refine wl_getr (np := 24) dX7_bestFree_21 rfl fl_X7_40 rfl (by assumption) (by assumption) ?_
        refine ld_i4 (np := 26) dX7_bestFree_24 rfl ?_
        refine ld_i4 (np := 28) dX7_bestFree_26 rfl ?_
        refine wl_iastoreN (np := 29) dX7_bestFree_28 rfl (by first | (simp only [nIm, nIa, ← nI_succ]; exact rfl) | exact nI_z | exact nI_o | exact rfl) (by assumption) (by omega) (by first | decide | omega) ?_
        refine inc_4 (np := 32) (v := _ + 1) dX7_bestFree_29 rfl rfl (by decide) rfl ?_
        refine wl_goto (tg := 14) dX7_bestFree_32 rfl ?_
        rw [uI_uA, ← nI_succ]
        refine ih (j + 1) _ (by omega) (fun i hi => ?_)
        unfold upF
        by_cases hij : i = j
        · rw [if_pos hij, hij]
        · rw [if_neg hij]
          exact hg i (by omega)
  refine ld_a0 (np := 1) dX7_bestFree_0 rfl ?_
  refine wl_getr (np := 4) dX7_bestFree_1 rfl fl_X7_46 rfl (by assumption) (by assumption) ?_
  refine wl_iconst (np := 5) (v := nI 3) dX7_bestFree_4 rfl (rfl) ?_
  refine wl_ialoadN (np := 6) dX7_bestFree_5 rfl (by first | (simp only [nIm, nIa, ← nI_succ]; exact rfl) | exact nI_z | exact nI_o | exact rfl) (by assumption) (by omega) (by first | decide | omega) ?_
  refine st_i2 (np := 7) dX7_bestFree_6 rfl (by decide) rfl ?_
  refine wl_sipush (np := 10) (v := nI 361) dX7_bestFree_7 rfl (by decide) ?_
  refine st_i3 (np := 11) dX7_bestFree_10 rfl (by decide) rfl ?_
  refine wl_iconst (np := 12) (v := 0) dX7_bestFree_11 rfl (rfl) ?_
  refine st_i4 (np := 14) dX7_bestFree_12 rfl (by decide) rfl ?_
  rw [h3]
  have h := kin P.2.1.length 0 (gI me 146) (by omega) (fun i hi => absurd hi (Nat.not_lt_zero _))
  rw [uA_id] at h
  exact h
/-- also the start's row -/
def BfT (me m : Mem) : Prop := RfM me m ∧ (∀ b, b ≠ 19 → b ≠ 20 → gI m 136 b = gI me 136 b) ∧ ∀ a, a ≠ 136 → a ≠ 138 → a ≠ 146 → a ≠ 147 → a ≠ 148 → gI m a = gI me a
theorem BfT.tr (h : BfT me m) (h' : BfT m m') : BfT me m' := ⟨h.1.tr h'.1, fun b h1 h2 => (h'.2.1 b h1 h2).trans (h.2.1 b h1 h2), fun a h1 h2 h3 h4 h5 => (h'.2.2 a h1 h2 h3 h4 h5).trans (h.2.2 a h1 h2 h3 h4 h5)⟩
theorem BfS.wd (h : BfS me m) : BfT me m := ⟨h.1, h.2.1, fun a h1 h2 h3 h4 _ => h.2.2 a h1 h2 h3 h4⟩
theorem BfT.s {g : Nat → Int32} : BfT me (uA me 148 g) := ⟨RfM.of rfl, fun b _ _ => congrFun (gI_uAn (by omega)) b, fun a _ _ _ _ h => gI_uAn h⟩
theorem good_bf (hF : FixM sh me) (hR : RepM me S) (hB : BfT me m) : GoodM sh me m S := by
  obtain ⟨b1, b2, b3⟩ := hB
  exact GoodM.last hF hR b1 ⟨fun b _ _ h1 h2 => b2 b h1 h2, b3 137 (by omega) (by omega) (by omega) (by omega) (by omega), fun a h1 h2 => b3 a (by omega) (by omega) (by omega) (by omega) (by omega), fun a h1 h2 => b3 a (by omega) (by omega) (by omega) (by omega) (by omega)⟩ (fun a ha => b3 a (by omega) (by omega) (by omega) (by omega) (by omega))
set_option maxHeartbeats 4000000 in
set_option maxRecDepth 100000 in
theorem c_M_free (p w : Int32) (hF : FixM sh me) (hR : RepM me S) (hwf : wfW kk S.1) (hkk : kk ≤ 64) (hd : 4 ≤ d) : CI d mX7_free sh [.ref 136, .int p, .int w] me (fun x m => x = (sp_free S p w).1 ∧ GoodM sh me m (sp_free S p w).2) := by
  have hFs := hF
  obtain ⟨z0, ⟨x1, x2, x4, x5, x6, x10, x11, x12, x16, x17, x18, x21, x22, x24, x25, x26, x27⟩, ⟨g1, g2, g4, g5, g6, g10, g11, g12, g16, g17, g18, g21, g22, g24, g25, g26, g27⟩, gs⟩ := hF
  obtain ⟨v1, v2, v3, v4, v5, v6, v7, v8, v9, v10, v11, v12⟩ := id hR.1
  have hn5 := v1.1
  refine CI.mk (L := [.ref 136, .int p, .int w, .float 0, .float 0]) (by decide) (Nat.le_of_ble_eq_true rfl) rfl ?_
  have bad : ¬ (isPn S.1.1 p ∧ inR w 0 7) → ∀ L4, Wa mX7_free (0, fun _ => 0) d 0 0 sh.length (PI sh (fun x m => x = (sp_free S p w).1 ∧ GoodM sh me m (sp_free S p w).2)) 20 L4 [] sh me 0 0 := by
    intro hb L4
    unfold sp_free
    rw [cif_f hb]
    refine wl_iconst (np := 21) (v := -1) dX7_free_20 rfl (rfl) ?_
    refine wi_ret dX7_free_21 rfl (rfl) (Nat.le_refl _) (Nat.le_refl _) ?_
    exact ⟨rfl, GoodM.same hFs hR⟩
  refine ld_a0 (np := 1) dX7_free_0 rfl ?_
  refine ld_i1 (np := 2) dX7_free_1 rfl ?_
  refine ciV_1 (np := 5) dX7_free_2 rfl lk_X7_80 (by assumption) (Nat.le_of_ble_eq_true rfl) (by omega) (Nat.le_refl _) (Nat.le_refl _) (c_M_isOne p z0 v3 hn5 (by omega)) (fun x_2 m_2 h_2 => ?_)
  obtain ⟨h2, q2⟩ := h_2
  have q2 := q2.symm
  subst q2
  have h2 : x_2 = 1 ∧ isPn S.1.1 p ∨ x_2 = 0 ∧ ¬ isPn S.1.1 p := h2
  refine wl_if_eq (np := 8) (tg := 20) dX7_free_5 rfl rfl (fun c_5 => ?_) (fun c_5 => ?_)
  · exact bad (fun h => or0 h2 c_5 h.1) _
  · have hpn := or1 h2 c_5
    obtain ⟨k, hk, rfl⟩ := or1 h2 c_5
    obtain ⟨P, hPk⟩ : ∃ P, S.1.1[k]? = some P := ⟨_, List.getElem?_eq_getElem hk⟩
    have hq := v1.2 k P hPk
    have h8 := hq.2.2.2.2.1
    have hpm := hwf.1 P (List.mem_of_getElem? hPk)
    refine ld_i2 (np := 9) dX7_free_8 rfl ?_
    refine wl_i2l (np := 10) dX7_free_9 rfl ?_
    refine wl_lconst (np := 11) (v := 0) dX7_free_10 rfl rfl ?_
    refine wl_ldc2 (np := 14) dX7_free_11 rfl wk_X7_207 ?_
    refine ciS_3 (np := 17) dX7_free_14 rfl lk_X7_68 (Nat.le_of_ble_eq_true rfl) (by omega) (Nat.le_refl _) (Nat.le_refl _) (c_in32 _ 0 7 (by decide) (by decide)) (fun x_14 m_14 h_14 => ?_)
    obtain ⟨rfl, q_14⟩ := h_14
    have q_14 := q_14.symm
    subst q_14
    refine wl_if_ne (np := 20) (tg := 22) dX7_free_17 rfl rfl (fun c_17 => ?_) (fun c_17 => ?_)
    · have hin := if1 c_17
      obtain ⟨j, hj, rfl⟩ := nI_of2 (x := w) (M := 7) (n := 7) rfl (Int32.not_lt.mpr hin.1) hin.2
      unfold sp_free
      rw [cif_t ⟨hpn, hin⟩, getP_nI hPk (by omega)]
      refine ld_a0 (np := 23) dX7_free_22 rfl ?_
      refine wl_getr (np := 26) dX7_free_23 rfl fl_X7_7 rfl (by assumption) (by assumption) ?_
      refine wl_bipush (np := 28) (v := nI 40) dX7_free_26 rfl (by decide) ?_
      refine ld_i1 (np := 29) dX7_free_28 rfl ?_
      refine wl_imul (np := 30) dX7_free_29 rfl ?_
      refine wl_iconst (np := 31) (v := nI 3) dX7_free_30 rfl (rfl) ?_
      refine wl_iadd (np := 32) dX7_free_31 rfl ?_
      refine wl_ialoadN (np := 33) dX7_free_32 rfl (by first | (simp only [nIm, nIa, ← nI_succ]; exact rfl) | exact nI_z | exact nI_o | exact rfl) (by assumption) (by omega) (by first | decide | omega) ?_
      refine st_i3 (np := 34) dX7_free_33 rfl (by decide) rfl ?_
      refine ld_i3 (np := 35) dX7_free_34 rfl ?_
      refine wl_bipush (np := 37) (v := nI 6) dX7_free_35 rfl (by decide) ?_
      refine wl_icmp_le (np := 40) (tg := 43) dX7_free_37 rfl rfl (fun c_37 => ?_) (fun c_37 => ?_)
      · rw [hq.2.2.2.1, nI_leI (by omega) (by decide)] at c_37
        rw [if_neg (by omega), hq.2.2.2.1]
        refine ld_a0 (np := 44) dX7_free_43 rfl ?_
        refine ld_i1 (np := 45) dX7_free_44 rfl ?_
        refine cvV_1 (np := 48) dX7_free_45 rfl lk_X7_209 (by assumption) (Nat.le_of_ble_eq_true rfl) (by omega) (Nat.le_refl _) (Nat.le_refl _) (c_M_starts z0 g1 x1 g21 x21 (show k < 5 by omega)) (fun m_45 h_45 => ?_)
        obtain ⟨f, rfl, hf⟩ := h_45
        have hF1 : FixM sh (uA me 148 f) := hFs.of (RfM.of rfl)
        have hs1 : RepQ (gI (uA me 148 f) 148) 0 P := by
          rw [gI_uAs]
          exact hq.sft (fun i hi => by rw [show 40 * 0 + i = i by omega]; exact hf i hi)
        have ht1 : RepT (gI (uA me 148 f) 139) k P := by rw [gI_uAn (by omega)]; exact v2 k P hPk
        have ho1 : gI (uA me 148 f) 141 0 = S.1.2.2.1.1 := by rw [gI_uAn (by omega)]; exact v5
        refine ld_a0 (np := 49) dX7_free_48 rfl ?_
        refine ld_i1 (np := 50) dX7_free_49 rfl ?_
        refine ciV_1 (np := 53) dX7_free_50 rfl lk_X7_212 (by assumption) (Nat.le_of_ble_eq_true rfl) (by omega) (Nat.le_refl _) (Nat.le_refl _) (c_M_bestFree hF1 hs1 ht1 (show k < 5 by omega) c_37 hpm (by omega) ho1 (by omega)) (fun x_50 m_50 h_50 => ?_)
        obtain ⟨rfl, hB, hrb⟩ := h_50
        have hgood : GoodM sh me m_50 S := good_bf hFs hR (BfT.s.tr hB.wd)
        have hFm := hgood.2.1
        have g18m := hFm.2.2.1.2.2.2.2.2.2.2.2.2.2.1
        unfold freeA
        generalize planS P S.1.2.2.1.1 = B at hrb ⊢
        have hb1 := hrb.1
        have hj0 : ∀ i, i ≤ 7 → i ≠ j → ¬ nI j = nI i := fun i h1 h2 q => h2 ((nI_eq (by omega) (by omega)).mp q).symm
        refine st_i4 (np := 55) dX7_free_53 rfl (by decide) rfl ?_
        refine ld_i4 (np := 57) dX7_free_55 rfl ?_
        refine wl_sipush (np := 60) (v := nI 360) dX7_free_57 rfl (by decide) ?_
        refine wl_icmp_gt (np := 63) (tg := 75) dX7_free_60 rfl rfl (fun c_60 => ?_) (fun c_60 => ?_)
        · rw [nI_ltI (by decide) (by omega)] at c_60
          rw [if_pos c_60]
          refine wl_bipush (np := 77) (v := -4) dX7_free_75 rfl (by decide) ?_
          refine wi_ret dX7_free_77 rfl (rfl) (Nat.le_refl _) (Nat.le_refl _) ?_
          exact ⟨rfl, hgood⟩
        · rw [nI_ltI (by decide) (by omega)] at c_60
          obtain ⟨r1, r2, r3⟩ := hrb.2 (by omega)
          rw [if_neg c_60]
          refine ld_i2 (np := 64) dX7_free_63 rfl ?_
          refine wl_iconst (np := 65) (v := 1) dX7_free_64 rfl (rfl) ?_
          refine wl_icmp_le (np := 68) (tg := 78) dX7_free_65 rfl rfl (fun c_65 => ?_) (fun c_65 => ?_)
          · rw [nI_o, nI_leI (by omega) (by decide)] at c_65
            refine ld_i2 (np := 79) dX7_free_78 rfl ?_
            refine wl_if_ne (np := 82) (tg := 87) dX7_free_79 rfl rfl (fun c_79 => ?_) (fun c_79 => ?_)
            · refine ld_i2 (np := 88) dX7_free_87 rfl ?_
              refine wl_iconst (np := 89) (v := 1) dX7_free_88 rfl (rfl) ?_
              refine wl_icmp_ne (np := 92) (tg := 99) dX7_free_89 rfl rfl (fun c_89 => ?_) (fun c_89 => ?_)
              · rcases (show j = 0 ∨ j = 1 by omega) with rfl | rfl
                · exact absurd rfl c_79
                · exact absurd rfl c_89
              · rw [if_neg c_79, if_pos c_89]
                refine ld_a0 (np := 93) dX7_free_92 rfl ?_
                refine wl_geti (np := 96) dX7_free_93 rfl fl_X7_201 (by decide) (by assumption) ?_
                refine wl_goto (tg := 107) dX7_free_96 rfl ?_
                refine wi_ret dX7_free_107 rfl (rfl) (Nat.le_refl _) (Nat.le_refl _) ?_
                exact ⟨r1, hgood⟩
            · rw [if_pos c_79]
              refine ld_i4 (np := 84) dX7_free_82 rfl ?_
              refine wl_goto (tg := 107) dX7_free_84 rfl ?_
              refine wi_ret dX7_free_107 rfl (rfl) (Nat.le_refl _) (Nat.le_refl _) ?_
              exact ⟨rfl, hgood⟩
          · rw [nI_o, nI_leI (by omega) (by decide)] at c_65
            have es : nI j - nI 2 = nI (j - 2) := nI_subI (by omega)
            have n0 : ¬ nI j = 0 := hj0 0 (by omega) (by omega)
            have n1 : ¬ nI j = 1 := hj0 1 (by omega) (by omega)
            have es2 : nI j - 2 = nI (j - 2) := es
            rw [if_neg n0, if_neg n1, es2, nI_clamp (by omega)]
            refine ld_i2 (np := 69) dX7_free_68 rfl ?_
            refine wl_iconst (np := 70) (v := nI 2) dX7_free_69 rfl (rfl) ?_
            refine wl_isub (np := 71) dX7_free_70 rfl ?_
            refine ld_i3 (np := 72) dX7_free_71 rfl ?_
            refine wl_icmp_lt (np := 75) (tg := 78) dX7_free_72 rfl rfl (fun c_72 => ?_) (fun c_72 => ?_)
            · rw [es] at c_72
              rw [if_pos c_72]
              rw [nI_ltI (by omega) (by omega)] at c_72
              refine ld_i2 (np := 79) dX7_free_78 rfl ?_
              refine wl_if_ne (np := 82) (tg := 87) dX7_free_79 rfl rfl (fun c_79 => ?_) (fun c_79 => ?_)
              · refine ld_i2 (np := 88) dX7_free_87 rfl ?_
                refine wl_iconst (np := 89) (v := 1) dX7_free_88 rfl (rfl) ?_
                refine wl_icmp_ne (np := 92) (tg := 99) dX7_free_89 rfl rfl (fun c_89 => ?_) (fun c_89 => ?_)
                · skip
                  refine ld_a0 (np := 100) dX7_free_99 rfl ?_
                  refine wl_getr (np := 103) dX7_free_100 rfl fl_X7_43 rfl (by assumption) (by assumption) ?_
                  refine ld_i2 (np := 104) dX7_free_103 rfl ?_
                  refine wl_iconst (np := 105) (v := nI 2) dX7_free_104 rfl (rfl) ?_
                  refine wl_isub (np := 106) dX7_free_105 rfl ?_
                  refine wl_ialoadN (np := 107) dX7_free_106 rfl (by first | (simp only [es,nIm, nIa, ← nI_succ]; exact rfl) | exact nI_z | exact nI_o | exact rfl) (by assumption) (by omega) (by first | decide | omega) ?_
                  refine wi_ret dX7_free_107 rfl (rfl) (Nat.le_refl _) (Nat.le_refl _) ?_
                  refine ⟨?_, hgood⟩
                  rw [r3 (j - 2) c_72]
                  rfl
                · exact absurd c_89 n1
              · exact absurd c_79 n0
            · rw [es] at c_72
              rw [if_neg c_72]
              refine wl_bipush (np := 77) (v := -4) dX7_free_75 rfl (by decide) ?_
              refine wi_ret dX7_free_77 rfl (rfl) (Nat.le_refl _) (Nat.le_refl _) ?_
              exact ⟨rfl, hgood⟩
      · rw [hq.2.2.2.1, nI_leI (by omega) (by decide)] at c_37
        rw [if_pos (by omega)]
        refine wl_bipush (np := 42) (v := -3) dX7_free_40 rfl (by decide) ?_
        refine wi_ret dX7_free_42 rfl (rfl) (Nat.le_refl _) (Nat.le_refl _) ?_
        exact ⟨rfl, GoodM.same hFs hR⟩
    · exact bad (fun h => if0 c_17 h.2) _
theorem ok_take {k day j : Nat} {P : Prs} (h : okPr k day P) : okPr k day (takeP P j) := by
  obtain ⟨h1, h2, h3, h4, h5⟩ := h
  exact ⟨h1, h2, h3, fun co hco => h4 co (List.mem_of_mem_eraseIdx hco), h5⟩
set_option maxHeartbeats 4000000 in
set_option maxRecDepth 100000 in
theorem c_M_saves (p c : Int32) (hF : FixM sh me) (hR : RepM me S) (hwf : wfW kk S.1) (hkk : kk ≤ 64) (hd : 4 ≤ d) : CI d mX7_saves sh [.ref 136, .int p, .int c] me (fun x m => x = (sp_saves S p c).1 ∧ GoodM sh me m (sp_saves S p c).2) := by
  have hFs := hF
  obtain ⟨z0, ⟨x1, x2, x4, x5, x6, x10, x11, x12, x16, x17, x18, x21, x22, x24, x25, x26, x27⟩, ⟨g1, g2, g4, g5, g6, g10, g11, g12, g16, g17, g18, g21, g22, g24, g25, g26, g27⟩, gs⟩ := hF
  obtain ⟨v1, v2, v3, v4, v5, v6, v7, v8, v9, v10, v11, v12⟩ := id hR.1
  have hn5 := v1.1
  refine CI.mk (L := [.ref 136, .int p, .int c, .float 0, .float 0]) (by decide) (Nat.le_of_ble_eq_true rfl) rfl ?_
  refine ld_a0 (np := 1) dX7_saves_0 rfl ?_
  refine ld_i1 (np := 2) dX7_saves_1 rfl ?_
  refine ld_i2 (np := 3) dX7_saves_2 rfl ?_
  refine ciV_2 (np := 6) dX7_saves_3 rfl lk_X7_91 (by assumption) (Nat.le_of_ble_eq_true rfl) (by omega) (Nat.le_refl _) (Nat.le_refl _) (c_M_isCoat p c hFs hR (by omega)) (fun x_3 m_3 h_3 => ?_)
  obtain ⟨h2, q2⟩ := h_3
  have q2 := q2.symm
  subst q2
  refine wl_if_ne (np := 9) (tg := 11) dX7_saves_6 rfl rfl (fun c_6 => ?_) (fun c_6 => ?_)
  · have hct := or1 h2 c_6
    obtain ⟨k, P, j, hPk, rfl, hj, rfl⟩ := or1 h2 c_6
    have hk : k < S.1.1.length := (List.getElem?_eq_some_iff.mp hPk).1
    have hq := v1.2 k P hPk
    have h8 := hq.2.2.2.2.1
    have hpm := hwf.1 P (List.mem_of_getElem? hPk)
    unfold sp_saves
    rw [cif_t hct, getP_nI hPk (by omega), nI_clamp (by omega)]
    refine ld_a0 (np := 12) dX7_saves_11 rfl ?_
    refine wl_getr (np := 15) dX7_saves_12 rfl fl_X7_7 rfl (by assumption) (by assumption) ?_
    refine wl_bipush (np := 17) (v := nI 40) dX7_saves_15 rfl (by decide) ?_
    refine ld_i1 (np := 18) dX7_saves_17 rfl ?_
    refine wl_imul (np := 19) dX7_saves_18 rfl ?_
    refine wl_iconst (np := 20) (v := nI 3) dX7_saves_19 rfl (rfl) ?_
    refine wl_iadd (np := 21) dX7_saves_20 rfl ?_
    refine wl_ialoadN (np := 22) dX7_saves_21 rfl (by first | (simp only [nIm, nIa, ← nI_succ]; exact rfl) | exact nI_z | exact nI_o | exact rfl) (by assumption) (by omega) (by first | decide | omega) ?_
    refine wl_bipush (np := 24) (v := nI 6) dX7_saves_22 rfl (by decide) ?_
    refine wl_icmp_le (np := 27) (tg := 30) dX7_saves_24 rfl rfl (fun c_24 => ?_) (fun c_24 => ?_)
    · rw [hq.2.2.2.1, nI_leI (by omega) (by decide)] at c_24
      rw [if_neg (by omega)]
      refine ld_a0 (np := 31) dX7_saves_30 rfl ?_
      refine ld_i1 (np := 32) dX7_saves_31 rfl ?_
      refine ld_i2 (np := 33) dX7_saves_32 rfl ?_
      refine ciV_2 (np := 36) dX7_saves_33 rfl lk_X7_177 (by assumption) (Nat.le_of_ble_eq_true rfl) (by omega) (Nat.le_refl _) (Nat.le_refl _) (c_M_isBetween z0 g1 x1 hq (by omega)) (fun x_33 m_33 h_33 => ?_)
      obtain ⟨rfl, q_33⟩ := h_33
      have q_33 := q_33.symm
      subst q_33
      refine wl_if_ne (np := 39) (tg := 42) dX7_saves_36 rfl rfl (fun c_36 => ?_) (fun c_36 => ?_)
      · rw [cif_t (if1 c_36)]
        refine ld_a0 (np := 43) dX7_saves_42 rfl ?_
        refine ld_i1 (np := 44) dX7_saves_43 rfl ?_
        refine cvV_1 (np := 47) dX7_saves_44 rfl lk_X7_209 (by assumption) (Nat.le_of_ble_eq_true rfl) (by omega) (Nat.le_refl _) (Nat.le_refl _) (c_M_starts z0 g1 x1 g21 x21 (show k < 5 by omega)) (fun m_44 h_44 => ?_)
        obtain ⟨f, rfl, hf⟩ := h_44
        have hF1 : FixM sh (uA me 148 f) := hFs.of (RfM.of rfl)
        have hs1 : RepQ (gI (uA me 148 f) 148) 0 P := by
          rw [gI_uAs]
          exact hq.sft (fun i hi => by rw [show 40 * 0 + i = i by omega]; exact hf i hi)
        have ht1 : RepT (gI (uA me 148 f) 139) k P := by rw [gI_uAn (by omega)]; exact v2 k P hPk
        have ho1 : gI (uA me 148 f) 141 0 = S.1.2.2.1.1 := by rw [gI_uAn (by omega)]; exact v5
        refine ld_a0 (np := 48) dX7_saves_47 rfl ?_
        refine ld_i1 (np := 49) dX7_saves_48 rfl ?_
        refine ciV_1 (np := 52) dX7_saves_49 rfl lk_X7_212 (by assumption) (Nat.le_of_ble_eq_true rfl) (by omega) (Nat.le_refl _) (Nat.le_refl _) (c_M_bestFree hF1 hs1 ht1 (show k < 5 by omega) c_24 hpm (by omega) ho1 (by omega)) (fun x_49 m_49 h_49 => ?_)
        obtain ⟨rfl, hB, hrb⟩ := h_49
        have hFm := hB.fx hF1
        have g21m := hFm.2.2.1.2.2.2.2.2.2.2.2.2.2.2.1
        have e148 : gI m_49 148 = f := (hB.2.2 148 (by omega) (by omega) (by omega) (by omega)).trans (gI_uAs _ _ _)
        have hsf : RepQ f 0 P := by
          rw [gI_uAs] at hs1
          exact hs1
        have hf3 : f 3 = nI P.2.1.length := hsf.2.2.2.1
        have el1 : nI P.2.1.length - 1 = nI (P.2.1.length - 1) := nI_subI (b := 1) (by omega)
        have hFo : ∀ g, FixM sh (uA m_49 148 g) := fun g => hFm.of (RfM.of rfl)
        have key : ∀ fu q, 4 * (P.2.1.length - 1) - q < fu → 4 * j ≤ q → q ≤ 4 * (P.2.1.length - 1) → Wa mX7_saves (0, fun _ => 0) d 0 0 sh.length (PI sh (fun x m => x = nI (planS P S.1.2.2.1.1).1 - nI (planS (takeP P j) S.1.2.2.1.1).1 ∧ GoodM sh me m S)) 68 [.ref 136, .int (nI k), .int (nI j), .int (nI (planS P S.1.2.2.1.1).1), .int (nI q)] [] sh (uA m_49 148 (offF f 0 j P.2.1.length q)) 0 0 := by
          intro fu
          induction fu with
          | zero => intro q h; omega
          | succ fu ih =>
            intro q hf hq1 hq2
            have k3 : gI (uA m_49 148 (offF f 0 j P.2.1.length q)) 148 3 = nI (P.2.1.length - 1) := by rw [gI_uAs]; unfold offF; rw [if_pos rfl]
            refine ld_i4 (np := 70) dX7_saves_68 rfl ?_
            refine wl_iconst (np := 71) (v := nI 4) dX7_saves_70 rfl (rfl) ?_
            refine ld_a0 (np := 72) dX7_saves_71 rfl ?_
            refine wl_getr (np := 75) dX7_saves_72 rfl fl_X7_46 rfl (by assumption) (by assumption) ?_
            refine wl_iconst (np := 76) (v := nI 3) dX7_saves_75 rfl (rfl) ?_
            refine wl_ialoadN (np := 77) dX7_saves_76 rfl (by first | (simp only [nIm, nIa, ← nI_succ]; exact rfl) | exact nI_z | exact nI_o | exact rfl) (by assumption) (by omega) (by first | decide | omega) ?_
            refine wl_imul (np := 78) dX7_saves_77 rfl ?_
            refine wl_icmp_ge (np := 81) (tg := 107) dX7_saves_78 rfl rfl (fun c_78 => ?_) (fun c_78 => ?_)
            · rw [k3, nIm, nI_leI (by omega) (by omega)] at c_78
              have hqe : q = 4 * (P.2.1.length - 1) := by omega
              subst hqe
              have hs2 : RepQ (gI (uA m_49 148 (offF f 0 j P.2.1.length (4 * (P.2.1.length - 1)))) 148) 0 (takeP P j) := by
                rw [gI_uAs]
                exact rep_off hsf hj
              have ht2 : RepT (gI (uA m_49 148 (offF f 0 j P.2.1.length (4 * (P.2.1.length - 1)))) 139) k (takeP P j) := by
                rw [gI_uAn (by omega), hB.2.2 139 (by omega) (by omega) (by omega) (by omega)]
                exact ht1
              have ho2 : gI (uA m_49 148 (offF f 0 j P.2.1.length (4 * (P.2.1.length - 1)))) 141 0 = S.1.2.2.1.1 := by
                rw [gI_uAn (by omega), hB.2.2 141 (by omega) (by omega) (by omega) (by omega)]
                exact ho1
              have hl2 : (takeP P j).2.1.length ≤ 6 := by
                show (P.2.1.eraseIdx j).length ≤ 6
                rw [List.length_eraseIdx]
                split <;> omega
              refine ld_i3 (np := 108) dX7_saves_107 rfl ?_
              refine ld_a0 (np := 109) dX7_saves_108 rfl ?_
              refine ld_i1 (np := 110) dX7_saves_109 rfl ?_
              refine ciV_1 (np := 113) dX7_saves_110 rfl lk_X7_212 (by assumption) (Nat.le_of_ble_eq_true rfl) (by omega) (Nat.le_refl _) (Nat.le_refl _) (c_M_bestFree (hFo _) hs2 ht2 (show k < 5 by omega) hl2 (ok_take hpm) (by omega) ho2 (by omega)) (fun x_110 m_110 h_110 => ?_)
              obtain ⟨rfl, hB2, hrb2⟩ := h_110
              refine wl_isub (np := 114) dX7_saves_113 rfl ?_
              refine wi_ret dX7_saves_114 rfl (rfl) (Nat.le_refl _) (Nat.le_refl _) ?_
              exact ⟨rfl, good_bf hFs hR (((BfT.s.tr hB.wd).tr BfT.s).tr hB2.wd)⟩
            · rw [k3, nIm, nI_leI (by omega) (by omega)] at c_78
              refine ld_a0 (np := 82) dX7_saves_81 rfl ?_
              refine wl_getr (np := 85) dX7_saves_82 rfl fl_X7_46 rfl (by assumption) (by assumption) ?_
              refine wl_bipush (np := 87) (v := nI 8) dX7_saves_85 rfl (by decide) ?_
              refine ld_i4 (np := 89) dX7_saves_87 rfl ?_
              refine wl_iadd (np := 90) dX7_saves_89 rfl ?_
              refine ld_a0 (np := 91) dX7_saves_90 rfl ?_
              refine wl_getr (np := 94) dX7_saves_91 rfl fl_X7_46 rfl (by assumption) (by assumption) ?_
              refine wl_bipush (np := 96) (v := nI 12) dX7_saves_94 rfl (by decide) ?_
              refine ld_i4 (np := 98) dX7_saves_96 rfl ?_
              refine wl_iadd (np := 99) dX7_saves_98 rfl ?_
              refine wl_ialoadN (np := 100) dX7_saves_99 rfl (by first | (simp only [nIm, nIa, ← nI_succ]; exact rfl) | exact nI_z | exact nI_o | exact rfl) (by assumption) (by omega) (by first | decide | omega) ?_
              refine wl_iastoreN (np := 101) dX7_saves_100 rfl (by first | (simp only [nIm, nIa, ← nI_succ]; exact rfl) | exact nI_z | exact nI_o | exact rfl) (by assumption) (by omega) (by first | decide | omega) ?_
              refine inc_4 (np := 104) (v := _ + 1) dX7_saves_101 rfl rfl (by decide) rfl ?_
              refine wl_goto (tg := 68) dX7_saves_104 rfl ?_
              rw [uI_uA, ← nI_succ]
              have hg : upF (offF f 0 j P.2.1.length q) (8 + q) (gI (uA m_49 148 (offF f 0 j P.2.1.length q)) 148 (12 + q)) = offF f 0 j P.2.1.length (q + 1) := by
                rw [gI_uAs]
                funext x
                by_cases hx : x = 8 + q
                · subst hx
                  rw [upF_s]
                  unfold offF
                  rw [if_neg (by omega), if_neg (by omega), if_neg (by omega), if_pos (by omega)]
                  congr 1
                  omega
                · rw [upF_n hx]
                  unfold offF
                  by_cases h3 : x = 40 * 0 + 3
                  · rw [if_pos h3, if_pos h3]
                  · rw [if_neg h3, if_neg h3]
                    exact if_iff (by omega)
              rw [hg]
              exact ih (q + 1) (by omega) (by omega) (by omega)
        refine st_i3 (np := 53) dX7_saves_52 rfl (by decide) rfl ?_
        refine ld_a0 (np := 54) dX7_saves_53 rfl ?_
        refine wl_getr (np := 57) dX7_saves_54 rfl fl_X7_46 rfl (by assumption) (by assumption) ?_
        refine wl_iconst (np := 58) (v := nI 3) dX7_saves_57 rfl (rfl) ?_
        refine wl_dup2 (np := 59) dX7_saves_58 rfl rfl rfl ?_
        refine wl_ialoadN (np := 60) dX7_saves_59 rfl (by first | (simp only [nIm, nIa, ← nI_succ]; exact rfl) | exact nI_z | exact nI_o | exact rfl) (by assumption) (by omega) (by first | decide | omega) ?_
        refine wl_iconst (np := 61) (v := 1) dX7_saves_60 rfl (rfl) ?_
        refine wl_isub (np := 62) dX7_saves_61 rfl ?_
        refine wl_iastoreN (np := 63) dX7_saves_62 rfl (by first | (simp only [nIm, nIa, ← nI_succ]; exact rfl) | exact nI_z | exact nI_o | exact rfl) (by assumption) (by omega) (by first | decide | omega) ?_
        refine wl_iconst (np := 64) (v := nI 4) dX7_saves_63 rfl (rfl) ?_
        refine ld_i2 (np := 65) dX7_saves_64 rfl ?_
        refine wl_imul (np := 66) dX7_saves_65 rfl ?_
        refine st_i4 (np := 68) dX7_saves_66 rfl (by decide) rfl ?_
        rw [e148, hf3, el1, uI_eq, e148, nIm]
        have hg : upF f 3 (nI (P.2.1.length - 1)) = offF f 0 j P.2.1.length (4 * j) := by
          funext x
          by_cases hx : x = 3
          · subst hx
            rw [upF_s]
            unfold offF
            rw [if_pos rfl]
          · rw [upF_n hx]
            unfold offF
            rw [if_neg (by omega), if_neg (by omega)]
        rw [hg]
        exact key (4 * (P.2.1.length - 1) + 1) (4 * j) (by omega) (by omega) (by omega)
      · rw [cif_f (if0 c_36)]
        refine wl_bipush (np := 41) (v := -2) dX7_saves_39 rfl (by decide) ?_
        refine wi_ret dX7_saves_41 rfl (rfl) (Nat.le_refl _) (Nat.le_refl _) ?_
        exact ⟨rfl, GoodM.same hFs hR⟩
    · rw [hq.2.2.2.1, nI_leI (by omega) (by decide)] at c_24
      rw [if_pos (by omega)]
      refine wl_bipush (np := 29) (v := -3) dX7_saves_27 rfl (by decide) ?_
      refine wi_ret dX7_saves_29 rfl (rfl) (Nat.le_refl _) (Nat.le_refl _) ?_
      exact ⟨rfl, GoodM.same hFs hR⟩
  · unfold sp_saves
    rw [cif_f (or0 h2 c_6)]
    refine wl_iconst (np := 10) (v := -1) dX7_saves_9 rfl (rfl) ?_
    refine wi_ret dX7_saves_10 rfl (rfl) (Nat.le_refl _) (Nat.le_refl _) ?_
    exact ⟨rfl, GoodM.same hFs hR⟩
end M23
