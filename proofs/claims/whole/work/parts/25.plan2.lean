theorem condSum_congr {set : Int32} {f g : Nat → Int32} : ∀ n, (∀ c, c < n → f c = g c) → condSum set f n = condSum set g n
  | 0, _ => rfl
  | n + 1, h => by
    unfold condSum
    rw [condSum_congr n (fun c hc => h c (by omega)), h n (by omega)]
/-- what a plan stands on: the planner, whose person, his rates and taxes -/
def PlS (sh : List Shp) (m : Mem) (pl q n : Nat) (off inc : Int32) (r t : Nat → Int32) : Prop :=
  isPl sh m pl ∧ gR m pl 3 = some q ∧ isP sh m q ∧ gI m q 5 = nI n ∧ gI m q 7 = inc ∧ gI m pl 4 = off ∧ (∀ c, c < n → gI m (q + 3) c = r c) ∧ (∀ c, c < n → taxF m q c = t c) ∧ (∀ c, c < n → ∃ l, l < 5 ∧ gI m (q + 1) c = nI l)
theorem PlS.fr {sh : List Shp} {m m' : Mem} {pl q n : Nat} {off inc : Int32} {r t : Nat → Int32} (h : PlS sh m pl q n off inc r t) (hq : q + 6 ≤ pl) (hO : Onl m m' pl (pl + 11)) (ho : gI m' pl 4 = gI m pl 4) : PlS sh m' pl q n off inc r t := by
  obtain ⟨h1, h2, h3, h4, h5, h6, h7, h8, h9⟩ := h
  have e : ∀ k b, k < 6 → gI m' (q + k) b = gI m (q + k) b := fun k b hk => hO.g (by omega)
  refine ⟨h1.of hO.1, by unfold gR at *; rw [hO.1]; exact h2, h3.of hO.1, (e 0 _ (by omega)).trans h4, (e 0 _ (by omega)).trans h5, ho.trans h6, fun c hc => (e 3 _ (by omega)).trans (h7 c hc), fun c hc => ?_, fun c hc => ?_⟩
  · rw [← h8 c hc]
    unfold taxF
    rw [e 1 c (by omega), e 5 _ (by omega)]
  · rw [e 1 c (by omega)]; exact h9 c hc
def RepBest (m : Mem) (pl : Nat) (B : Bpl) : Prop := gI m pl 5 = nI B.1 ∧ B.1 ≤ 361 ∧ gI m pl 6 = B.2.1 ∧ (B.1 ≤ 360 → B.2.2.length ≤ 6 ∧ ∀ i o, B.2.2[i]? = some o → gI m (pl + 10) i = nI o)
def PlPost (m m' : Mem) (pl dO dA : Nat) (B : Bpl) : Prop := Onl m m' pl (pl + 11) ∧ gI m' pl 4 = gI m pl 4 ∧ RepBest m' pl B ∧ (∀ i, i < dO → gI m' (pl + 9) i = gI m (pl + 9) i) ∧ (∀ j, j ≤ dA → gI m' (pl + 2 + j) = gI m (pl + 2 + j))
theorem foldB_app (pre : List Nat) (res : List Nat → Option (Nat × Int32)) (B : Bpl) (l1 l2 : List (List Nat)) : foldB pre res B (l1 ++ l2) = foldB pre res (foldB pre res B l1) l2 := by
  unfold foldB; rw [List.foldl_append]
theorem foldB_map (pre : List Nat) (res : List Nat → Option (Nat × Int32)) (c : Nat) (l : List (List Nat)) : ∀ B, foldB pre res B (l.map (fun o => c :: o)) = foldB (pre ++ [c]) (fun o => res (c :: o)) B l := by
  unfold foldB
  induction l with
  | nil => intro B; rfl
  | cons o l ih =>
    intro B
    rw [List.map_cons, List.foldl_cons, List.foldl_cons, ih]
    congr 1
    unfold stepB
    dsimp only
    cases res (c :: o) with
    | none => rfl
    | some x => simp only [List.append_assoc, List.singleton_append]
theorem min_nI {a : Nat} (h : a ≤ 361) : minI (nI a) 360 = nI (min a 360) := by
  unfold minI
  show (if nI 360 < nI a then nI 360 else nI a) = _
  by_cases hl : 360 < a
  · rw [if_pos (show nI 360 < nI a from (nI_ltI (by decide) (by omega)).mpr hl), show min a 360 = 360 by omega]
  · rw [if_neg (fun q => hl ((nI_ltI (by decide) (by omega)).mp (show nI 360 < nI a from q))), show min a 360 = a by omega]
def cntB (m : Nat) : Nat := ((List.range 6).filter (fun c => m.testBit c)).length
theorem cnt_rem : ∀ m, m < 64 → ∀ c, c < 6 → m.testBit c = true → cntB (m - 2 ^ c) + 1 = cntB m ∧ m - 2 ^ c < 64 ∧ (∀ e, e < 6 → (m - 2 ^ c).testBit e = true → m.testBit e = true) := by decide +kernel
theorem cnt_zero : ∀ m, m < 64 → (cntB m = 0 ↔ m = 0) := by decide +kernel
section PLAN2
variable {sh : List Shp} {d pl q n : Nat} {off inc : Int32} {r t : Nat → Int32}
/-- the contract of tryEach with k coats left -/
def TryC (sh : List Shp) (pl q n : Nat) (off inc : Int32) (r t : Nat → Int32) (k : Nat) : Prop :=
  ∀ (d mask day : Nat) (p pd : Int32) (A : Nat → Int32) (B : Bpl) (pre : List Nat) (m : Mem), 2 * k + 3 ≤ d → PlS sh m pl q n off inc r t → mask < 64 → (∀ c, c < 6 → mask.testBit c = true → c < n) → cntB mask = k → pre.length + k = n → day ≤ 360 → okp p → okA A n → (∀ i o, pre[i]? = some o → gI m (pl + 9) i = nI o) → (∀ c, c < 8 → gI m (pl + 2 + pre.length) c = A c) → RepBest m pl B →
    CV d mX2_tryEach sh [.ref pl, .int (nI pre.length), .int (nI mask), .int (nI day), .int p, .int pd] m (fun m' => PlPost m m' pl pre.length pre.length (foldB pre (fun o => sim r t inc n o mask day p A pd) B (comp off k mask)))
set_option maxHeartbeats 4000000 in
set_option maxRecDepth 100000 in
theorem c_payNext {k : Nat} (hT : TryC sh pl q n off inc r t k) (hqp : q + 6 ≤ pl) (hn6 : n ≤ 6) (hD : okD r t inc n) {mask day c : Nat} {p pd : Int32} {A : Nat → Int32} {B : Bpl} {pre : List Nat} {m : Mem} (hd : 2 * k + 4 ≤ d) (hS : PlS sh m pl q n off inc r t) (hm : mask < 64) (hbits : ∀ c, c < 6 → mask.testBit c = true → c < n) (hcnt : cntB mask = k + 1) (hpre : pre.length + (k + 1) = n) (hday : day ≤ 360) (hp : okp p) (hA : okA A n)
    (hord : ∀ i o, pre[i]? = some o → gI m (pl + 9) i = nI o) (hoc : gI m (pl + 9) pre.length = nI c) (hc : mask.testBit c = true) (hc6 : c < 6) (ham : ∀ c, c < 8 → gI m (pl + 2 + pre.length) c = A c) (hB : RepBest m pl B) :
    CV d mX2_payNext sh [.ref pl, .int (nI pre.length), .int (nI mask), .int (nI day), .int p, .int pd] m (fun m' => PlPost m m' pl (pre.length + 1) pre.length (foldB pre (fun o => sim r t inc n o mask day p A pd) B ((comp off k (mask - 2 ^ c)).map (fun o => c :: o)))) := by
  have hS0 := hS
  have hcn := hbits c hc6 hc
  obtain ⟨hpl, hwho, hq, hw, hinc, hoff, hrr, htt, hll⟩ := hS
  have hpls := hpl
  have hqs := hq
  obtain ⟨p0, p1, p2, p3, p4, u0, u1, u2, u3⟩ := hpl
  obtain ⟨s0, s1, s2, s3, s4, s5, r0, r1, r2, r3, r4⟩ := hq
  have sA0 := p2 pre.length (by omega)
  have sA1 := p2 (pre.length + 1) (by omega)
  rw [foldB_map]
  generalize hTG : foldB (pre ++ [c]) (fun o => sim r t inc n (c :: o) mask day p A pd) B (comp off k (mask - 2 ^ c)) = TG
  have hB1 := hB.1
  have hB2 := hB.2.1
  -- nothing comes of it
  have noop : ∀ (w : Nat) (h : Int32) (A' : Nat → Int32), waitU r t inc n mask c (360 - w) w h A' = waitU r t inc n mask c (360 - day) day p A → (∀ d' p' A2, waitU r t inc n mask c (360 - w) w h A' = some (d', p', A2) → min B.1 360 < d') → TG = B := by
    intro w h A' he hlate
    rw [← hTG]
    refine foldB_noop (fun o ho => ?_)
    unfold stepB
    dsimp only
    cases hsim : sim r t inc n (c :: o) mask day p A pd with
    | none => rfl
    | some x =>
      obtain ⟨dy, pd'⟩ := x
      dsimp only
      have hs := hsim
      unfold sim at hs
      cases hwt : waitU r t inc n mask c (360 - day) day p A with
      | none => rw [hwt] at hs; cases hs
      | some y =>
        obtain ⟨d', p', A2⟩ := y
        rw [hwt] at hs
        have h1 := hlate d' p' A2 (he.trans hwt)
        have h2 := waitU_day r t inc n mask c _ _ _ _ _ _ _ hwt
        have h3 := sim_day r t inc n o _ d' _ _ _ dy pd' (by omega) hs
        unfold keepB
        rw [if_neg (by omega)]
  -- the loop
  have key : ∀ fuel (w : Nat) (h : Int32) (A' : Nat → Int32) (mm : Mem), min B.1 360 - w < fuel → w ≤ 360 → okp h → okA A' n → waitU r t inc n mask c (360 - w) w h A' = waitU r t inc n mask c (360 - day) day p A → Onl m mm pl (pl + 11) → gI mm pl = gI m pl → gI mm (pl + 9) = gI m (pl + 9) → gI mm (pl + 10) = gI m (pl + 10) → (∀ j, j ≤ pre.length → gI mm (pl + 2 + j) = gI m (pl + 2 + j)) → (∀ e, e < 8 → gI mm (pl + 2 + (pre.length + 1)) e = A' e) →
      Wa mX2_payNext (0, fun _ => 0) d 0 0 sh.length (PV sh (fun m' => PlPost m m' pl (pre.length + 1) pre.length TG)) 75 [.ref pl, .int (nI pre.length), .int (nI mask), .int (nI day), .int p, .int pd, .ref (pl + 2 + (pre.length + 1)), .int (nI c), .int (taxN t n mask), .int (maxI (inc - taxN t n mask) 0), .int (nI (min B.1 360)), .int (nI w), .int h, .float 0] [] sh mm 0 0 := by
    intro fuel
    induction fuel with
    | zero => intro w h A' mm hf; omega
    | succ fuel ih =>
      intro w h A' mm hf hw0 hh hA' he hO hpe hoe hbe hje hae
      obtain ⟨I1, R1⟩ := mm
      obtain rfl : R1 = m.2 := hO.1
      have hBm : RepBest (I1, m.2) pl B := by
        obtain ⟨b1, b2, b3, b4⟩ := hB
        exact ⟨(congrFun hpe 5).trans b1, b2, (congrFun hpe 6).trans b3, fun h => ⟨(b4 h).1, fun i o ho => (congrFun hbe i).trans ((b4 h).2 i o ho)⟩⟩
      have post0 : TG = B → PlPost m (I1, m.2) pl (pre.length + 1) pre.length TG := fun hTB => ⟨hO, congrFun hpe 4, hTB ▸ hBm, fun i _ => congrFun hoe i, hje⟩
      have hac : gI (I1, m.2) (pl + 2 + (pre.length + 1)) (nI c).toNatClampNeg = A' c := by rw [nI_clamp (by omega)]; exact hae c (by omega)
      have ia : inA sh (pl + 2 + (pre.length + 1)) (nI c) := inA_n sA1 (by omega) (by decide)
      have k141 : (¬ h < A' c ∨ min B.1 360 ≤ w) → Wa mX2_payNext (0, fun _ => 0) d 0 0 sh.length (PV sh (fun m' => PlPost m m' pl (pre.length + 1) pre.length TG)) 141 [.ref pl, .int (nI pre.length), .int (nI mask), .int (nI day), .int p, .int pd, .ref (pl + 2 + (pre.length + 1)), .int (nI c), .int (taxN t n mask), .int (maxI (inc - taxN t n mask) 0), .int (nI (min B.1 360)), .int (nI w), .int h, .float 0] [] sh (I1, m.2) 0 0 := by
        intro hcase
        refine ld_a6 (np := 143) dX2_payNext_141 rfl ?_
        refine ld_i7 (np := 145) dX2_payNext_143 rfl ?_
        refine wl_iaload (np := 146) dX2_payNext_145 rfl (ia) ?_
        refine st_i13 (np := 148) dX2_payNext_146 rfl (by decide) rfl ?_
        rw [hac]
        refine ld_i12 (np := 150) dX2_payNext_148 rfl ?_
        refine ld_i13 (np := 152) dX2_payNext_150 rfl ?_
        refine wl_icmp_lt (np := 155) (tg := 182) dX2_payNext_152 rfl rfl (fun c_152 => ?_) (fun c_152 => ?_)
        · refine wv_ret dX2_payNext_182 rfl (Nat.le_refl _) (Nat.le_refl _) ?_
          refine post0 (noop w h A' he (fun d' p' A2 hwt => ?_))
          have h2 := waitU_day r t inc n mask c _ _ _ _ _ _ _ hwt
          have h3 := h2.2.2.2 c_152
          rcases hcase with h4 | h4
          · exact absurd c_152 h4
          · omega
        · have hwt : waitU r t inc n mask c (360 - w) w h A' = some (w, h, A') := by
            cases 360 - w with
            | zero => exact if_neg c_152
            | succ k => exact if_neg c_152
          have hcr := cnt_rem mask hm c hc6 hc
          have hlt : (A' c).toInt ≤ h.toInt := by
            have : ¬ h.toInt < (A' c).toInt := fun q => c_152 (Int32.lt_iff_toInt_lt.mpr q)
            omega
          have hokp : okp (h - A' c) := by
            unfold okp at hh ⊢
            have := hA' c hcn
            rw [ti_sub (by omega) (by omega)]
            omega
          have hSm : PlS sh (I1, m.2) pl q n off inc r t := hS0.fr hqp hO (congrFun hpe 4)
          have hsub : sim r t inc n = sim r t inc n := rfl
          have hTG2 : TG = foldB (pre ++ [c]) (fun o => sim r t inc n o (mask - 2 ^ c) w (h - A' c) A' (pd + A' c)) B (comp off k (mask - 2 ^ c)) := by
            rw [← hTG]
            congr 1
            funext o
            conv => lhs; unfold sim
            rw [← he, hwt]
          have hlen : (pre ++ [c]).length = pre.length + 1 := by simp
          have hcall := hT (d - 1) (mask - 2 ^ c) w (h - A' c) (pd + A' c) A' B (pre ++ [c]) (I1, m.2) (by omega) hSm hcr.2.1 (fun e he6 hb => hbits e he6 (hcr.2.2 e he6 hb)) (by omega) (by omega) hw0 hokp hA' (fun i o ho => ?_) (fun e he8 => by rw [hlen]; exact hae e he8) hBm
          · rw [hlen, nI_succ] at hcall
            refine ld_a0 (np := 156) dX2_payNext_155 rfl ?_
            refine ld_i1 (np := 157) dX2_payNext_156 rfl ?_
            refine wl_iconst (np := 158) (v := 1) dX2_payNext_157 rfl (rfl) ?_
            refine wl_iadd (np := 159) dX2_payNext_158 rfl ?_
            refine ld_i2 (np := 160) dX2_payNext_159 rfl ?_
            refine wl_iconst (np := 161) (v := 1) dX2_payNext_160 rfl (rfl) ?_
            refine ld_i7 (np := 163) dX2_payNext_161 rfl ?_
            refine wl_ishl (np := 164) dX2_payNext_163 rfl ?_
            refine wl_iconst (np := 165) (v := -1) dX2_payNext_164 rfl (rfl) ?_
            refine wl_ixor (np := 166) dX2_payNext_165 rfl ?_
            refine wl_iand (np := 167) dX2_payNext_166 rfl ?_
            refine ld_i11 (np := 169) dX2_payNext_167 rfl ?_
            refine ld_i12 (np := 171) dX2_payNext_169 rfl ?_
            refine ld_i13 (np := 173) dX2_payNext_171 rfl ?_
            refine wl_isub (np := 174) dX2_payNext_173 rfl ?_
            refine ld_i5 (np := 176) dX2_payNext_174 rfl ?_
            refine ld_i13 (np := 178) dX2_payNext_176 rfl ?_
            refine wl_iadd (np := 179) dX2_payNext_178 rfl ?_
            refine cvV_5 (np := 182) dX2_payNext_179 rfl lk_X2_55 (by assumption) (Nat.le_of_ble_eq_true rfl) (by omega) (Nat.le_refl _) (Nat.le_refl _) (by rw [rem_all mask hm c hc6 hc]; exact hcall) (fun m_179 h_179 => ?_)
            obtain ⟨e1, e2, e3, e4, e5⟩ := h_179
            refine wv_ret dX2_payNext_182 rfl (Nat.le_refl _) (Nat.le_refl _) ?_
            rw [hTG2]
            refine ⟨hO.tr e1, e2.trans (congrFun hpe 4), e3, fun i hi => (e4 i hi).trans (congrFun hoe i), fun j hj => (e5 j (by omega)).trans (hje j hj)⟩
          · rw [congrFun hoe i]
            by_cases hi : i < pre.length
            · rw [List.getElem?_append_left hi] at ho
              exact hord i o ho
            · rw [List.getElem?_append_right (by omega)] at ho
              have hz : i - pre.length < 1 := (List.getElem?_eq_some_iff.mp ho).1
              have hie : i = pre.length := by omega
              subst hie
              rw [Nat.sub_self] at ho
              cases ho
              exact hoc
      refine ld_i12 (np := 77) dX2_payNext_75 rfl ?_
      refine ld_a6 (np := 79) dX2_payNext_77 rfl ?_
      refine ld_i7 (np := 81) dX2_payNext_79 rfl ?_
      refine wl_iaload (np := 82) dX2_payNext_81 rfl (ia) ?_
      refine wl_icmp_ge (np := 85) (tg := 141) dX2_payNext_82 rfl rfl (fun c_82 => ?_) (fun c_82 => ?_)
      · rw [hac] at c_82
        exact k141 (Or.inl (Int32.not_lt.mpr c_82))
      · rw [hac] at c_82
        have hlt : h < A' c := Int32.not_le.mp c_82
        refine ld_i11 (np := 87) dX2_payNext_85 rfl ?_
        refine ld_i10 (np := 89) dX2_payNext_87 rfl ?_
        refine wl_icmp_ge (np := 92) (tg := 141) dX2_payNext_89 rfl rfl (fun c_89 => ?_) (fun c_89 => ?_)
        · rw [nI_le_iff (by omega) (by omega)] at c_89
          exact k141 (Or.inr c_89)
        · rw [nI_le_iff (by omega) (by omega)] at c_89
          have hb := tax_b hD (by omega) (nI mask) n (Nat.le_refl _)
          have hg : (maxI (inc - taxN t n mask) 0).toInt = max (inc.toInt - (taxN t n mask).toInt) 0 := by
            have h1 := hD.1
            have e0 : (0 : Int32).toInt = 0 := rfl
            have hb2 : 0 ≤ (taxN t n mask).toInt ∧ (taxN t n mask).toInt ≤ 9 * n := hb
            rw [ti_max, ti_sub (by omega) (by omega), e0]
          have hgb : 0 ≤ (maxI (inc - taxN t n mask) 0).toInt ∧ (maxI (inc - taxN t n mask) 0).toInt ≤ 99 := by
            have h1 := hD.1
            have hb2 : 0 ≤ (taxN t n mask).toInt ∧ (taxN t n mask).toInt ≤ 9 * n := hb
            rw [hg]
            omega
          have esub : nI (min B.1 360) - nI w = nI (min B.1 360 - w) := pk_sub (by omega)
          have emul : (maxI (inc - taxN t n mask) 0 * nI (min B.1 360 - w)).toInt = max (inc.toInt - (taxN t n mask).toInt) 0 * ((min B.1 360 - w : Nat) : Int) := by
            have e1 : (nI (min B.1 360 - w)).toInt = ((min B.1 360 - w : Nat) : Int) := nI_toInt (by omega)
            have hm1 : (maxI (inc - taxN t n mask) 0).toInt * (nI (min B.1 360 - w)).toInt ≤ 99 * 360 := by
              rw [e1]
              exact Int.mul_le_mul hgb.2 (by omega) (by omega) (by omega)
            have hm0 : 0 ≤ (maxI (inc - taxN t n mask) 0).toInt * (nI (min B.1 360 - w)).toInt := Int.mul_nonneg hgb.1 (by rw [e1]; omega)
            rw [ti_mul (by omega) (by omega), e1, hg]
          have emb : 0 ≤ (maxI (inc - taxN t n mask) 0 * nI (min B.1 360 - w)).toInt ∧ (maxI (inc - taxN t n mask) 0 * nI (min B.1 360 - w)).toInt ≤ 99 * 360 := by
            rw [emul, ← hg]
            exact ⟨Int.mul_nonneg hgb.1 (by omega), Int.mul_le_mul hgb.2 (by omega) (by omega) (by omega)⟩
          refine ld_i12 (np := 94) dX2_payNext_92 rfl ?_
          refine ld_i9 (np := 96) dX2_payNext_94 rfl ?_
          refine ld_i10 (np := 98) dX2_payNext_96 rfl ?_
          refine ld_i11 (np := 100) dX2_payNext_98 rfl ?_
          refine wl_isub (np := 101) dX2_payNext_100 rfl ?_
          refine wl_imul (np := 102) dX2_payNext_101 rfl ?_
          refine wl_iadd (np := 103) dX2_payNext_102 rfl ?_
          refine ld_a6 (np := 105) dX2_payNext_103 rfl ?_
          refine ld_i7 (np := 107) dX2_payNext_105 rfl ?_
          refine wl_iaload (np := 108) dX2_payNext_107 rfl (ia) ?_
          refine wl_icmp_ge (np := 111) (tg := 112) dX2_payNext_108 rfl rfl (fun c_108 => ?_) (fun c_108 => ?_)
          · -- goes on
            have hSm : PlS sh (I1, m.2) pl q n off inc r t := hS0.fr hqp hO (congrFun hpe 4)
            have hin2 := hSm.2.2.2.2.1
            obtain ⟨q1, q2⟩ := okp_purse (m := mask) hD (by omega) hh
            obtain ⟨g1, g2⟩ := okA_grow (m := mask) hD hA'
            refine ld_i12 (np := 114) dX2_payNext_112 rfl ?_
            refine ld_a0 (np := 115) dX2_payNext_114 rfl ?_
            refine wl_getr (np := 118) dX2_payNext_115 rfl fl_X2_23 rfl (by assumption) (by assumption) ?_
            refine wl_geti (np := 121) dX2_payNext_118 rfl fl_X2_81 (by decide) (by assumption) ?_
            refine ld_i8 (np := 123) dX2_payNext_121 rfl ?_
            refine ciSN_3 (np := 126) dX2_payNext_123 rfl lk_X2_93 (Nat.le_of_ble_eq_true rfl) (by omega) (Nat.le_refl _) (Nat.le_refl _) (c_purseNextDay _ _ _ (by omega)) (fun x_123 m_123 h_123 => ?_)
            obtain ⟨rfl, q_123⟩ := h_123
            have q_123 := q_123.symm
            subst q_123
            refine st_i12 (np := 128) dX2_payNext_126 rfl (by decide) rfl ?_
            refine ld_a0 (np := 129) dX2_payNext_128 rfl ?_
            refine ld_a6 (np := 131) dX2_payNext_129 rfl ?_
            refine ld_i2 (np := 132) dX2_payNext_131 rfl ?_
            refine cvV_2 (np := 135) dX2_payNext_132 rfl lk_X2_97 (by assumption) (Nat.le_of_ble_eq_true rfl) (by omega) (Nat.le_refl _) (Nat.le_refl _) (c_growAmounts (nI mask) hSm.1 hSm.2.1 hSm.2.2.1 sA1 (by omega) hSm.2.2.2.1 (by omega) (by omega)) (fun m_132 h_132 => ?_)
            have q_132 := h_132.symm
            subst q_132
            refine inc_11 (np := 138) (v := _ + 1) dX2_payNext_135 rfl rfl (by decide) rfl ?_
            refine wl_goto (tg := 75) dX2_payNext_138 rfl ?_
            rw [hin2, ← nI_succ]
            have gne : ∀ x, x ≠ pl + 2 + (pre.length + 1) → gI (grM (I1, m.2) q (pl + 2 + (pre.length + 1)) (nI mask) n) x = gI (I1, m.2) x := fun x hx => by
              funext b
              simp only [grM, g_def, g_raw]
              rw [if_neg (fun hh => hx hh.1)]
            refine ih (w + 1) _ (growN r n mask A') _ (by omega) (by omega) q1 g1 ?_ ⟨rfl, fun x hx => ?_⟩ ((gne _ (by omega)).trans hpe) ((gne _ (by omega)).trans hoe) ((gne _ (by omega)).trans hbe) (fun j hj => (gne _ (by omega)).trans (hje j hj)) (fun e he8 => ?_)
            · rw [← he, show 360 - w = (360 - (w + 1)) + 1 by omega]
              exact (if_pos hlt).symm
            · exact (gne x (by omega)).trans (hO.2 x hx)
            · simp only [grM, g_def, g_raw]
              unfold growN
              by_cases hen : e < n
              · have hbt := bit_all mask hm e (by omega)
                by_cases htb : mask.testBit e = true
                · rw [if_pos ⟨by first | trivial | rfl, hen, fun q => by rw [hbt.mp q] at htb; cases htb⟩, if_pos ⟨hen, htb⟩, show I1 (pl + 2 + (pre.length + 1)) e = A' e from hae e he8, show I1 (q + 3) e = r e from hSm.2.2.2.2.2.2.1 e hen]
                · rw [if_neg (fun hh => hh.2.2 (hbt.mpr (by simpa using htb))), if_neg (fun hh => htb hh.2)]
                  exact hae e he8
              · rw [if_neg (fun hh => hen hh.2.1), if_neg (fun hh => hen hh.1)]
                exact hae e he8
          · -- gives up
            rw [hac, esub] at c_108
            refine wv_ret dX2_payNext_111 rfl (Nat.le_refl _) (Nat.le_refl _) ?_
            refine post0 (noop w h A' he (fun d' p' A2 hwt => ?_))
            have hlt2 := Int32.lt_iff_toInt_lt.mp (Int32.not_le.mp c_108)
            have hh1 := hh.1
            have hh2 := hh.2
            rw [ti_add (by omega) (by omega), emul] at hlt2
            exact wait_late hD (by omega) hcn _ w h A' (min B.1 360) d' p' A2 hh hA' hlt2 hwt
  refine CV.mk (L := [.ref pl, .int (nI pre.length), .int (nI mask), .int (nI day), .int p, .int pd, .float 0, .float 0, .float 0, .float 0, .float 0, .float 0, .float 0, .float 0]) (by decide) (Nat.le_of_ble_eq_true rfl) rfl ?_
  refine ld_a0 (np := 1) dX2_payNext_0 rfl ?_
  refine wl_getr (np := 4) dX2_payNext_1 rfl fl_X2_11 rfl (by assumption) (by first | assumption | (rw [← nI_succ, nI_clamp (by omega)]; exact u3 _ (by omega)) | (rw [nI_clamp (by omega)]; exact u3 _ (by omega))) ?_
  refine ld_i1 (np := 5) dX2_payNext_4 rfl ?_
  refine wl_iconst (np := 6) (v := 1) dX2_payNext_5 rfl (rfl) ?_
  refine wl_iadd (np := 7) dX2_payNext_6 rfl ?_
  refine wl_aaload (np := 8) dX2_payNext_7 rfl (by assumption) (by decide) (nI_succ pre.length ▸ vp_in_nI (by omega) (by decide)) (by first | assumption | (rw [← nI_succ, nI_clamp (by omega)]; exact u3 _ (by omega)) | (rw [nI_clamp (by omega)]; exact u3 _ (by omega))) ?_
  refine st_a6 (np := 10) dX2_payNext_8 rfl (by decide) rfl ?_
  refine ld_a0 (np := 11) dX2_payNext_10 rfl ?_
  refine wl_getr (np := 14) dX2_payNext_11 rfl fl_X2_11 rfl (by assumption) (by first | assumption | (rw [← nI_succ, nI_clamp (by omega)]; exact u3 _ (by omega)) | (rw [nI_clamp (by omega)]; exact u3 _ (by omega))) ?_
  refine ld_i1 (np := 15) dX2_payNext_14 rfl ?_
  refine wl_aaload (np := 16) dX2_payNext_15 rfl (by assumption) (by decide) (vp_in_nI (by omega) (by decide)) (by first | assumption | (rw [← nI_succ, nI_clamp (by omega)]; exact u3 _ (by omega)) | (rw [nI_clamp (by omega)]; exact u3 _ (by omega))) ?_
  refine wl_iconst (np := 17) (v := 0) dX2_payNext_16 rfl (rfl) ?_
  refine ld_a6 (np := 19) dX2_payNext_17 rfl ?_
  refine wl_iconst (np := 20) (v := 0) dX2_payNext_19 rfl (rfl) ?_
  refine wl_bipush (np := 22) (v := 8) dX2_payNext_20 rfl (by decide) ?_
  refine wl_copy (np := 25) dX2_payNext_22 rfl lk_X2_42 (Nat.le_of_ble_eq_true rfl) (by omega) (by assumption) (by assumption) (by decide) (by decide) (by decide) (Nat.le_of_ble_eq_true rfl) (Nat.le_of_ble_eq_true rfl) ?_
  have mne : ∀ x, x ≠ pl + 2 + (pre.length + 1) → gI (uA m (pl + 2 + (pre.length + 1)) (va_cpy (gI m (pl + 2 + pre.length)) (gI m (pl + 2 + (pre.length + 1))) (0 : Int32).toNatClampNeg (0 : Int32).toNatClampNeg (8 : Int32).toNatClampNeg)) x = gI m x := fun x hx => by
    funext b
    rw [gI_uA, if_neg hx]
  have mae : ∀ e, e < 8 → gI (uA m (pl + 2 + (pre.length + 1)) (va_cpy (gI m (pl + 2 + pre.length)) (gI m (pl + 2 + (pre.length + 1))) (0 : Int32).toNatClampNeg (0 : Int32).toNatClampNeg (8 : Int32).toNatClampNeg)) (pl + 2 + (pre.length + 1)) e = A e := fun e he => by
    rw [gI_uA, if_pos rfl]
    have e0 : (0 : Int32).toNatClampNeg = 0 := rfl
    have e8 : (8 : Int32).toNatClampNeg = 8 := rfl
    unfold va_cpy
    rw [e0, e8, if_pos (by omega), Nat.zero_add, Nat.sub_zero]
    exact ham e he
  have mO : Onl m (uA m (pl + 2 + (pre.length + 1)) (va_cpy (gI m (pl + 2 + pre.length)) (gI m (pl + 2 + (pre.length + 1))) (0 : Int32).toNatClampNeg (0 : Int32).toNatClampNeg (8 : Int32).toNatClampNeg)) pl (pl + 11) := ⟨rfl, fun x hx => mne x (by omega)⟩
  generalize hM1 : uA m (pl + 2 + (pre.length + 1)) (va_cpy (gI m (pl + 2 + pre.length)) (gI m (pl + 2 + (pre.length + 1))) (0 : Int32).toNatClampNeg (0 : Int32).toNatClampNeg (8 : Int32).toNatClampNeg) = m1 at mne mae mO ⊢
  obtain ⟨I1, R1⟩ := m1
  obtain rfl : R1 = m.2 := mO.1
  have hSm : PlS sh (I1, m.2) pl q n off inc r t := hS0.fr hqp mO (congrFun (mne pl (by omega)) 4)
  have hoc1 : gI (I1, m.2) (pl + 9) (nI pre.length).toNatClampNeg = nI c := by rw [nI_clamp (by omega), congrFun (mne (pl + 9) (by omega))]; exact hoc
  refine ld_a0 (np := 26) dX2_payNext_25 rfl ?_
  refine wl_getr (np := 29) dX2_payNext_26 rfl fl_X2_16 rfl (by assumption) (by assumption) ?_
  refine ld_i1 (np := 30) dX2_payNext_29 rfl ?_
  refine wl_iaload (np := 31) dX2_payNext_30 rfl (inA_n p3 (by omega) (by decide)) ?_
  refine st_i7 (np := 33) dX2_payNext_31 rfl (by decide) rfl ?_
  refine ld_a0 (np := 34) dX2_payNext_33 rfl ?_
  refine ld_i2 (np := 35) dX2_payNext_34 rfl ?_
  refine ciV_1 (np := 38) dX2_payNext_35 rfl lk_X2_77 (by assumption) (Nat.le_of_ble_eq_true rfl) (by omega) (Nat.le_refl _) (Nat.le_refl _) (c_taxesOf (nI mask) hSm.1 hSm.2.1 hSm.2.2.1 hSm.2.2.2.1 (by omega) hSm.2.2.2.2.2.2.2.2 (by omega)) (fun x_35 m_35 h_35 => ?_)
  obtain ⟨rfl, q_35⟩ := h_35
  have q_35 := q_35.symm
  subst q_35
  refine st_i8 (np := 40) dX2_payNext_38 rfl (by decide) rfl ?_
  refine ld_a0 (np := 41) dX2_payNext_40 rfl ?_
  refine wl_getr (np := 44) dX2_payNext_41 rfl fl_X2_23 rfl (by assumption) (by assumption) ?_
  refine wl_geti (np := 47) dX2_payNext_44 rfl fl_X2_81 (by decide) (by assumption) ?_
  refine ld_i8 (np := 49) dX2_payNext_47 rfl ?_
  refine wl_isub (np := 50) dX2_payNext_49 rfl ?_
  refine wl_iconst (np := 51) (v := 0) dX2_payNext_50 rfl (rfl) ?_
  refine wl_max (np := 54) dX2_payNext_51 rfl lk_X2_84 (Nat.le_of_ble_eq_true rfl) (by omega) (Nat.le_refl _) (Nat.le_refl _) ?_
  refine st_i9 (np := 56) dX2_payNext_54 rfl (by decide) rfl ?_
  refine ld_a0 (np := 57) dX2_payNext_56 rfl ?_
  refine wl_geti (np := 60) dX2_payNext_57 rfl fl_X2_31 (by decide) (by assumption) ?_
  refine wl_sipush (np := 63) (v := 360) dX2_payNext_60 rfl (by decide) ?_
  refine wl_min (np := 66) dX2_payNext_63 rfl lk_X2_90 (Nat.le_of_ble_eq_true rfl) (by omega) (Nat.le_refl _) (Nat.le_refl _) ?_
  refine st_i10 (np := 68) dX2_payNext_66 rfl (by decide) rfl ?_
  refine ld_i3 (np := 69) dX2_payNext_68 rfl ?_
  refine st_i11 (np := 71) dX2_payNext_69 rfl (by decide) rfl ?_
  refine ld_i4 (np := 73) dX2_payNext_71 rfl ?_
  refine st_i12 (np := 75) dX2_payNext_73 rfl (by decide) rfl ?_
  rw [hoc1, condSum_congr n hSm.2.2.2.2.2.2.2.1, hSm.2.2.2.2.1, congrFun (mne pl (by omega)) 5, hB1]
  have hmn := min_nI hB2
  unfold minI at hmn
  rw [hmn]
  exact key 400 day p A _ (by omega) hday hp hA rfl mO (mne pl (by omega)) (mne _ (by omega)) (mne _ (by omega)) (fun j hj => mne _ (by omega)) mae
end PLAN2
