section M19
variable {sh : List Shp} {me : Mem} {d n p q : Nat} {S : St} {F r : Nat → Int32} {w : Int32}
theorem skB_idem {f : Nat → Int32} {n p : Nat} (h : p ≤ n) : skB f n (skB f n p) = skB f n p := by
  have key : ∀ k p, n - p = k → p ≤ n → skB f n (skB f n p) = skB f n p := by
    intro k
    induction k with
    | zero =>
      intro p hk hp
      have e : skB f n p = p := skB_stop (Or.inl (by omega))
      rw [e, e]
    | succ k ih =>
      intro p hk hp
      by_cases hb : f p = 32
      · rw [skB_step (by omega) hb]
        exact ih (p + 1) (by omega) (by omega)
      · have e : skB f n p = p := skB_stop (Or.inr hb)
        rw [e, e]
  exact key _ p rfl h
theorem byA {q : Nat} (hok : okB F n) : (inR (hrI F n q) (nI 97) (nI 101) → q < n ∧ hrI F n q - nI 97 = nbI F n q - 97 ∧ 0 ≤ nbI F n q - 97 ∧ nbI F n q - 97 ≤ 4) ∧ (¬ inR (hrI F n q) (nI 97) (nI 101) → ¬ (0 ≤ nbI F n q - 97 ∧ nbI F n q - 97 ≤ 4)) := by
  unfold hrI nbI
  by_cases hq : q < n
  · rw [if_pos hq, if_pos hq]
    obtain ⟨h1, h2⟩ := hok q hq
    generalize F q = y at h1 h2 ⊢
    obtain ⟨c, hc, rfl⟩ := nI_of2 (x := y) (M := 126) (n := 126) rfl (Int32.not_lt.mpr (Int32.le_trans (by decide) h1)) h2
    constructor
    · intro h
      have a1 := (nI_leI (by decide) (by omega)).mp h.1
      have a2 := (nI_leI (by omega) (by decide)).mp h.2
      have e : nI c - 97 = nI (c - 97) := nI_subI (b := 97) a1
      refine ⟨hq, rfl, ?_, ?_⟩
      · rw [e]; exact nI_pos' (by omega)
      · rw [e]; exact (show nI (c - 97) ≤ nI 4 from nI_le (by omega) (by decide))
    · intro h h'
      by_cases hc97 : 97 ≤ c
      · have e : nI c - 97 = nI (c - 97) := nI_subI (b := 97) hc97
        rw [e] at h'
        have h2 : nI (c - 97) ≤ nI 4 := h'.2
        have h3 := (nI_leI (by omega) (by decide)).mp h2
        exact h ⟨nI_le hc97 (by omega), nI_le (by omega) (by decide)⟩
      · exact absurd h'.1 (Int32.not_le.mpr (pk_sneg (b := 97) (by decide) (by omega)))
  · rw [if_neg hq, if_neg hq]
    exact ⟨fun h => absurd h.1 (by decide), fun _ h => absurd h.1 (by decide)⟩
theorem byD {q : Nat} (hok : okB F n) : (inR (hrI F n q) (nI 49) (nI 57) → q < n ∧ 1 + (hrI F n q - nI 49) = nbI F n q - 48 ∧ 49 ≤ nbI F n q ∧ nbI F n q ≤ 57) ∧ (¬ inR (hrI F n q) (nI 49) (nI 57) → ¬ (49 ≤ nbI F n q ∧ nbI F n q ≤ 57)) := by
  unfold hrI nbI
  by_cases hq : q < n
  · rw [if_pos hq, if_pos hq]
    obtain ⟨h1, h2⟩ := hok q hq
    generalize F q = y at h1 h2 ⊢
    obtain ⟨c, hc, rfl⟩ := nI_of2 (x := y) (M := 126) (n := 126) rfl (Int32.not_lt.mpr (Int32.le_trans (by decide) h1)) h2
    refine ⟨fun h => ⟨hq, ?_, h.1, h.2⟩, fun h h' => h h'⟩
    have a1 := (nI_leI (by decide) (by omega)).mp h.1
    rw [nI_subI a1, nI_o, nIa]
    have e : nI c - 48 = nI (c - 48) := nI_subI (b := 48) (by omega)
    rw [e]
    congr 1
    omega
  · rw [if_neg hq, if_neg hq]
    exact ⟨fun h => absurd h.1 (by decide), fun _ h => absurd h.1 (by decide)⟩
/-- the row that is read holds these coats -/
def rR (r : Nat → Int32) (acc : List Coat) : Prop := ∀ c co, acc[c]? = some co → r (4 * c) = co.1 ∧ r (4 * c + 1) = co.2.1 ∧ r (4 * c + 2) = co.2.2.1 ∧ r (4 * c + 3) = co.2.2.2
theorem rR.app {r : Nat → Int32} {acc : List Coat} {k : Nat} {l a b t : Int32} (h : rR r acc) (hk : acc.length = k) : rR (upd (upd (upd (upd r (4 * k) l) (4 * k + 1) a) (4 * k + 2) b) (4 * k + 3) t) (acc ++ [(l, a, b, t)]) := by
  intro c co hc
  by_cases hlt : c < acc.length
  · rw [List.getElem?_append_left hlt] at hc
    obtain ⟨e1, e2, e3, e4⟩ := h c co hc
    refine ⟨?_, ?_, ?_, ?_⟩ <;> simp only [upd] <;> grind
  · rw [List.getElem?_append_right (by omega)] at hc
    have hz : c - acc.length < 1 := (List.getElem?_eq_some_iff.mp hc).1
    have hce : c = k := by omega
    subst hce
    rw [hk, Nat.sub_self] at hc
    cases hc
    refine ⟨?_, ?_, ?_, ?_⟩ <;> simp only [upd] <;> grind
def cpF (N r : Nat → Int32) (kp k j : Nat) : Nat → Int32 := fun i => if i = 40 * kp + 3 then nI k else if 40 * kp + 8 ≤ i ∧ i < 40 * kp + 8 + j then r (i - (40 * kp + 8)) else N i
theorem rep_cp {N r : Nat → Int32} {kp : Nat} {acc : List Coat} {P : Prs} (hq : RepQ N kp P) (hr : rR r acc) (h6 : acc.length ≤ 6) : RepQ (cpF N r kp acc.length (4 * acc.length)) kp (P.1, acc, P.2.2) := by
  obtain ⟨h1, h2, h3, h4, h5, h6', h7, h8⟩ := hq
  have o : ∀ i, i < 8 → i ≠ 3 → cpF N r kp acc.length (4 * acc.length) (40 * kp + i) = N (40 * kp + i) := fun i hi h3 => by
    unfold cpF
    rw [if_neg (by omega), if_neg (by omega)]
  have e : ∀ i, i < 4 * acc.length → cpF N r kp acc.length (4 * acc.length) (40 * kp + 8 + i) = r i := fun i hi => by
    unfold cpF
    rw [if_neg (by omega), if_pos (by omega), show 40 * kp + 8 + i - (40 * kp + 8) = i by omega]
  refine ⟨(o 0 (by omega) (by omega)).trans h1, (o 1 (by omega) (by omega)).trans h2, (o 2 (by omega) (by omega)).trans h3, ?_, (show acc.length ≤ 8 by omega), (o 4 (by omega) (by omega)).trans h6', (o 5 (by omega) (by omega)).trans h7, fun c co hc => ?_⟩
  · unfold cpF
    rw [if_pos rfl]
  · have hlt := (List.getElem?_eq_some_iff.mp hc).1
    have hlt : c < acc.length := hlt
    obtain ⟨e1, e2, e3, e4⟩ := hr c co hc
    exact ⟨(e (4 * c) (by omega)).trans e1, (e (4 * c + 1) (by omega)).trans e2, (e (4 * c + 2) (by omega)).trans e3, (e (4 * c + 3) (by omega)).trans e4⟩
theorem good_taped {s : Nat} (hF : FixM sh me) (hR : RepM me S) : GoodM sh me (uI (nM me s w r) 136 13 0) (S.1, S.2.1, (0, S.2.2.1.2), S.2.2.2) := by
  have e0 : ∀ b, b ≠ 13 → b ≠ 14 → b ≠ 15 → gI (uI (nM me s w r) 136 13 0) 136 b = gI me 136 b := fun b h1 h2 h3 => (gI_uI_nb h1).trans (nM_fl h2 h3)
  have e1 : ∀ a, a ≠ 136 → a ≠ 145 → gI (uI (nM me s w r) 136 13 0) a = gI me a := fun a h1 h2 => (gI_uI_ne h1).trans (nM_o h1 h2)
  obtain ⟨h1, h2, ⟨h3, h4, h5⟩, h6⟩ := hR
  refine ⟨⟨?_, ?_, ⟨gI_uI_self _ _ _ _, Nat.zero_le _, fun i hi => absurd hi (Nat.not_lt_zero _)⟩, fun k hk => ?_⟩, hF.of (RfM.of rfl), RfM.of rfl, fun a ha => e1 a (by omega) (by omega)⟩
  · unfold NowM at *
    rw [e1 137 (by omega) (by omega), e1 139 (by omega) (by omega), e1 140 (by omega) (by omega), e1 141 (by omega) (by omega), e1 142 (by omega) (by omega), e1 143 (by omega) (by omega), e0 0 (by omega) (by omega) (by omega), e0 7 (by omega) (by omega) (by omega), e0 8 (by omega) (by omega) (by omega), e0 9 (by omega) (by omega) (by omega)]
    exact h1
  · dsimp only
    cases hI : S.2.1 with
    | none => rw [hI] at h2; exact (e0 23 (by omega) (by omega) (by omega)).trans h2
    | some V =>
      rw [hI] at h2
      unfold ImgM at *
      rw [e0 23 (by omega) (by omega) (by omega), e1 149 (by omega) (by omega)]
      exact h2
  · rw [e1 150 (by omega) (by omega), e1 151 (by omega) (by omega), e1 152 (by omega) (by omega)]
    exact h6 k hk
noncomputable def coT (S : St) (kp : Nat) (P : Prs) (RR : Nat ⊕ List Coat) : Int32 × St := match RR with
  | .inl k => (-20 - nI k, (S.1, S.2.1, (0, S.2.2.1.2), S.2.2.2))
  | .inr l => (nI l.length, ((S.1.1.set kp (P.1, l, P.2.2), S.1.2), S.2.1, (0, S.2.2.1.2), S.2.2.2))
set_option maxHeartbeats 4000000 in
set_option maxRecDepth 100000 in
theorem c_M_coats_main {kp : Nat} {P : Prs} {RR : Nat ⊕ List Coat} (hF : FixM sh me) (hR : RepM me S) (hkp : kp < S.1.1.length) (hPk : S.1.1[kp]? = some P) (hl : gI me 136 13 = nI n) (hn : n ≤ 80) (hFF : gI me 144 = F) (hok : okB F n) (hRR : rdS F n 6 0 [] = RR) (hd : 3 ≤ d) : Wa mX7_coats (0, fun _ => 0) d 0 0 sh.length (PI sh (fun x m => x = (coT S kp P RR).1 ∧ GoodM sh me m (coT S kp P RR).2)) 24 [.ref 136, .int (nI kp), .int 0, .int 1, .float 0] [] sh (nM me 0 0 (gI me 145)) 0 0 := by
  have hFs := hF
  obtain ⟨z0, ⟨x1, x2, x4, x5, x6, x10, x11, x12, x16, x17, x18, x21, x22, x24, x25, x26, x27⟩, ⟨g1, g2, g4, g5, g6, g10, g11, g12, g16, g17, g18, g21, g22, g24, g25, g26, g27⟩, gs⟩ := hF
  have v1 := hR.1.1
  have v2 := hR.1.2.1
  have hn5 := v1.1
  have hq := v1.2 kp P hPk
  have ht := v2 kp P hPk
  -- a fault
  have kF : ∀ p' r k2 k3, RR = .inl p' → Wa mX7_coats (0, fun _ => 0) d 0 0 sh.length (PI sh (fun x m => x = (coT S kp P RR).1 ∧ GoodM sh me m (coT S kp P RR).2)) 152 [.ref 136, .int (nI kp), .int k2, .int k3, .float 0] [] sh (nM me p' 1 r) 0 0 := by
    intro p' r k2 k3 hr
    subst hr
    refine ld_a0 (np := 153) dX7_coats_152 rfl ?_
    refine ld_a0 (np := 154) dX7_coats_153 rfl ?_
    refine wl_geti (np := 157) dX7_coats_154 rfl fl_X7_122 (by decide) (by assumption) ?_
    refine wl_if_ne (np := 160) (tg := 167) dX7_coats_157 rfl rfl (fun c_157 => ?_) (fun c_157 => ?_)
    · refine wl_iconst (np := 168) (v := 1) dX7_coats_167 rfl (rfl) ?_
      refine wl_goto (tg := 172) dX7_coats_168 rfl ?_
      refine wl_putz (np := 175) dX7_coats_172 rfl fl_X7_122 nf_7_15 rfl (by decide) (by assumption) ?_
      rw [nM_pw]
      refine ld_a0 (np := 176) dX7_coats_175 rfl ?_
      refine wl_iconst (np := 177) (v := 0) dX7_coats_176 rfl (rfl) ?_
      refine wl_puti (np := 180) dX7_coats_177 rfl fl_X7_116 nf_7_13 rfl (by assumption) ?_
      refine ld_a0 (np := 181) dX7_coats_180 rfl ?_
      refine wl_geti (np := 184) dX7_coats_181 rfl fl_X7_122 (by decide) (by assumption) ?_
      refine wl_if_eq (np := 187) (tg := 195) dX7_coats_184 rfl rfl (fun c_184 => ?_) (fun c_184 => ?_)
      · rw [gI_uI_nb (by omega), nM_wr] at c_184
        exact absurd c_184 (by decide)
      · refine wl_bipush (np := 189) (v := -20) dX7_coats_187 rfl (by decide) ?_
        refine ld_a0 (np := 190) dX7_coats_189 rfl ?_
        refine wl_geti (np := 193) dX7_coats_190 rfl fl_X7_119 (by decide) (by assumption) ?_
        refine wl_isub (np := 194) dX7_coats_193 rfl ?_
        refine wi_ret dX7_coats_194 rfl (rfl) (Nat.le_refl _) (Nat.le_refl _) ?_
        rw [gI_uI_nb (by omega), nM_at]
        exact ⟨rfl, good_taped hFs hR⟩
    · rw [nM_wr] at c_157
      exact absurd c_157 (by decide)
  -- the end: a byte too many, or what is read is worn
  have kS : ∀ p' r acc k3, p' ≤ n → acc.length ≤ 6 → rR r acc → RR = (if n ≤ skB F n p' then .inr acc else .inl (skB F n p')) → Wa mX7_coats (0, fun _ => 0) d 0 0 sh.length (PI sh (fun x m => x = (coT S kp P RR).1 ∧ GoodM sh me m (coT S kp P RR).2)) 152 [.ref 136, .int (nI kp), .int (nI acc.length), .int k3, .float 0] [] sh (nM me p' 0 r) 0 0 := by
    intro p' r acc k3 hp' h6 hrr hr
    refine ld_a0 (np := 153) dX7_coats_152 rfl ?_
    refine ld_a0 (np := 154) dX7_coats_153 rfl ?_
    refine wl_geti (np := 157) dX7_coats_154 rfl fl_X7_122 (by decide) (by assumption) ?_
    refine wl_if_ne (np := 160) (tg := 167) dX7_coats_157 rfl rfl (fun c_157 => ?_) (fun c_157 => ?_)
    · rw [nM_wr] at c_157
      exact absurd rfl c_157
    · refine ld_a0 (np := 161) dX7_coats_160 rfl ?_
      refine ciV_0 (np := 164) dX7_coats_161 rfl lk_X7_126 (by assumption) (Nat.le_of_ble_eq_true rfl) (by omega) (Nat.le_refl _) (Nat.le_refl _) (c_M_here z0 g12 x12 hl hn hFF hp') (fun x_161 m_161 h_161 => ?_)
      obtain ⟨rfl, q_161⟩ := h_161
      have q_161 := q_161.symm
      subst q_161
      refine wl_if_eq (np := 167) (tg := 171) dX7_coats_164 rfl rfl (fun c_164 => ?_) (fun c_164 => ?_)
      · -- the end is there
        have hle : n ≤ skB F n p' := Classical.byContradiction fun h => by
          unfold hrI at c_164
          rw [if_pos (by omega)] at c_164
          have := (hok (skB F n p') (by omega)).1
          rw [c_164] at this
          exact absurd this (by decide)
        rw [if_pos hle] at hr
        rw [hr]
        refine wl_iconst (np := 172) (v := 0) dX7_coats_171 rfl (rfl) ?_
        refine wl_putz (np := 175) dX7_coats_172 rfl fl_X7_122 nf_7_15 rfl (by decide) (by assumption) ?_
        rw [nM_pw]
        refine ld_a0 (np := 176) dX7_coats_175 rfl ?_
        refine wl_iconst (np := 177) (v := 0) dX7_coats_176 rfl (rfl) ?_
        refine wl_puti (np := 180) dX7_coats_177 rfl fl_X7_116 nf_7_13 rfl (by assumption) ?_
        refine ld_a0 (np := 181) dX7_coats_180 rfl ?_
        refine wl_geti (np := 184) dX7_coats_181 rfl fl_X7_122 (by decide) (by assumption) ?_
        refine wl_if_eq (np := 187) (tg := 195) dX7_coats_184 rfl rfl (fun c_184 => ?_) (fun c_184 => ?_)
        · have hgood := good_taped (w := 0) (r := r) (s := skB F n p') hFs hR
          generalize hm0 : uI (nM me (skB F n p') 0 r) 136 13 0 = m0 at hgood
          have e145 : gI m0 145 = r := by rw [← hm0, gI_uI_ne (by omega), nM_r]
          have e137 : gI m0 137 = gI me 137 := by rw [← hm0, gI_uI_ne (by omega), nM_o (by omega) (by omega)]
          have e139 : gI m0 139 = gI me 139 := by rw [← hm0, gI_uI_ne (by omega), nM_o (by omega) (by omega)]
          have ef : m0.2 = me.2 := by rw [← hm0]; rfl
          have h1' : gR m0 136 1 = some 137 := by unfold gR; rw [ef]; exact g1
          have h16' : gR m0 136 16 = some 145 := by unfold gR; rw [ef]; exact g16
          have key2 : ∀ fuel j, j + fuel = 4 * acc.length → Wa mX7_coats (0, fun _ => 0) d 0 0 sh.length (PI sh (fun x m => x = (coT S kp P (Sum.inr acc)).1 ∧ GoodM sh me m (coT S kp P (Sum.inr acc)).2)) 210 [.ref 136, .int (nI kp), .int (nI acc.length), .int k3, .int (nI j)] [] sh (uA m0 137 (cpF (gI me 137) r kp acc.length j)) 0 0 := by
            intro fuel
            induction fuel with
            | zero =>
              intro j hj
              refine ld_i4 (np := 212) dX7_coats_210 rfl ?_
              refine wl_iconst (np := 213) (v := nI 4) dX7_coats_212 rfl (rfl) ?_
              refine ld_i2 (np := 214) dX7_coats_213 rfl ?_
              refine wl_imul (np := 215) dX7_coats_214 rfl ?_
              refine wl_icmp_ge (np := 218) (tg := 246) dX7_coats_215 rfl rfl (fun c_215 => ?_) (fun c_215 => ?_)
              · refine ld_i2 (np := 247) dX7_coats_246 rfl ?_
                refine wi_ret dX7_coats_247 rfl (rfl) (Nat.le_refl _) (Nat.le_refl _) ?_
                refine ⟨rfl, ?_⟩
                have hj4 : j = 4 * acc.length := by omega
                subst hj4
                refine hgood.tr ?_
                exact GoodM.p (S := (S.1, S.2.1, (0, S.2.2.1.2), S.2.2.2)) hgood.2.1 hgood.1 rfl (RfM.of rfl) hkp (fun i hi => by
                  rw [e137]
                  unfold cpF
                  rw [if_neg (by omega), if_neg (by omega)]) (rep_cp hq hrr h6) (by rw [e139]; exact ht)
              · rw [nIm, nI_leI (by omega) (by omega)] at c_215
                omega
            | succ fuel ih =>
              intro j hj
              refine ld_i4 (np := 212) dX7_coats_210 rfl ?_
              refine wl_iconst (np := 213) (v := nI 4) dX7_coats_212 rfl (rfl) ?_
              refine ld_i2 (np := 214) dX7_coats_213 rfl ?_
              refine wl_imul (np := 215) dX7_coats_214 rfl ?_
              refine wl_icmp_ge (np := 218) (tg := 246) dX7_coats_215 rfl rfl (fun c_215 => ?_) (fun c_215 => ?_)
              · rw [nIm, nI_leI (by omega) (by omega)] at c_215
                omega
              · refine ld_a0 (np := 219) dX7_coats_218 rfl ?_
                refine wl_getr (np := 222) dX7_coats_219 rfl fl_X7_7 rfl (by assumption) (by assumption) ?_
                refine wl_bipush (np := 224) (v := nI 40) dX7_coats_222 rfl (by decide) ?_
                refine ld_i1 (np := 225) dX7_coats_224 rfl ?_
                refine wl_imul (np := 226) dX7_coats_225 rfl ?_
                refine wl_bipush (np := 228) (v := nI 8) dX7_coats_226 rfl (by decide) ?_
                refine wl_iadd (np := 229) dX7_coats_228 rfl ?_
                refine ld_i4 (np := 231) dX7_coats_229 rfl ?_
                refine wl_iadd (np := 232) dX7_coats_231 rfl ?_
                refine ld_a0 (np := 233) dX7_coats_232 rfl ?_
                refine wl_getr (np := 236) dX7_coats_233 rfl fl_X7_37 rfl (by assumption) (by assumption) ?_
                refine ld_i4 (np := 238) dX7_coats_236 rfl ?_
                refine wl_ialoadN (np := 239) dX7_coats_238 rfl (by first | (simp only [nM_at,nIm, nIa, ← nI_succ]; exact rfl) | exact nI_z | exact nI_o | exact rfl) (by assumption) (by omega) (by first | decide | omega) ?_
                refine wl_iastoreN (np := 240) dX7_coats_239 rfl (by first | (simp only [nM_at,nIm, nIa, ← nI_succ]; exact rfl) | exact nI_z | exact nI_o | exact rfl) (by assumption) (by omega) (by first | decide | omega) ?_
                refine inc_4 (np := 243) (v := _ + 1) dX7_coats_240 rfl rfl (by decide) rfl ?_
                refine wl_goto (tg := 210) dX7_coats_243 rfl ?_
                rw [← nI_succ, gI_uAn (by omega), e145]
                have em : uI (uA m0 137 (cpF (gI me 137) r kp acc.length j)) 137 (40 * kp + 8 + j) (r j) = uA m0 137 (cpF (gI me 137) r kp acc.length (j + 1)) := by
                  apply mem_ext
                  · intro a b
                    rw [gI_uI, gI_uA, gI_uA]
                    by_cases ha : a = 137
                    · by_cases hb : b = 40 * kp + 8 + j
                      · rw [if_pos ⟨ha, hb⟩, if_pos ha, hb]
                        unfold cpF
                        rw [if_neg (by omega), if_pos (by omega), show 40 * kp + 8 + j - (40 * kp + 8) = j by omega]
                      · rw [if_neg (fun q => hb q.2), if_pos ha, if_pos ha]
                        unfold cpF
                        by_cases h3 : b = 40 * kp + 3
                        · rw [if_pos h3, if_pos h3]
                        · rw [if_neg h3, if_neg h3]
                          by_cases h8 : 40 * kp + 8 ≤ b ∧ b < 40 * kp + 8 + j
                          · rw [if_pos h8, if_pos (by omega)]
                          · rw [if_neg h8, if_neg (by omega)]
                    · rw [if_neg (fun q => ha q.1), if_neg ha, if_neg ha]
                  · rfl
                rw [em]
                exact ih (j + 1) (by omega)
          refine ld_a0 (np := 196) dX7_coats_195 rfl ?_
          refine wl_getr (np := 199) dX7_coats_196 rfl fl_X7_7 rfl (by assumption) (by assumption) ?_
          refine wl_bipush (np := 201) (v := nI 40) dX7_coats_199 rfl (by decide) ?_
          refine ld_i1 (np := 202) dX7_coats_201 rfl ?_
          refine wl_imul (np := 203) dX7_coats_202 rfl ?_
          refine wl_iconst (np := 204) (v := nI 3) dX7_coats_203 rfl (rfl) ?_
          refine wl_iadd (np := 205) dX7_coats_204 rfl ?_
          refine ld_i2 (np := 206) dX7_coats_205 rfl ?_
          refine wl_iastoreN (np := 207) dX7_coats_206 rfl (by first | (simp only [nM_at,nIm, nIa, ← nI_succ]; exact rfl) | exact nI_z | exact nI_o | exact rfl) (by assumption) (by omega) (by first | decide | omega) ?_
          refine wl_iconst (np := 208) (v := 0) dX7_coats_207 rfl (rfl) ?_
          refine st_i4 (np := 210) dX7_coats_208 rfl (by decide) rfl ?_
          have em : uI m0 137 (40 * kp + 3) (nI acc.length) = uA m0 137 (cpF (gI me 137) r kp acc.length 0) := by
            apply mem_ext
            · intro a b
              rw [gI_uI, gI_uA]
              by_cases ha : a = 137
              · rw [if_pos ha]
                unfold cpF
                by_cases hb : b = 40 * kp + 3
                · rw [if_pos ⟨ha, hb⟩, if_pos hb]
                · rw [if_neg (fun q => hb q.2), if_neg hb, if_neg (by omega), ha, e137]
              · rw [if_neg (fun q => ha q.1), if_neg ha]
            · rfl
          rw [em]
          exact key2 (4 * acc.length) 0 (by omega)
        · rw [gI_uI_nb (by omega), nM_wr] at c_184
          exact absurd rfl c_184
      · -- something stands behind
        have hlt : ¬ n ≤ skB F n p' := fun h => c_164 (by unfold hrI; rw [if_neg (by omega)])
        rw [if_neg hlt] at hr
        subst hr
        refine wl_iconst (np := 168) (v := 1) dX7_coats_167 rfl (rfl) ?_
        refine wl_goto (tg := 172) dX7_coats_168 rfl ?_
        refine wl_putz (np := 175) dX7_coats_172 rfl fl_X7_122 nf_7_15 rfl (by decide) (by assumption) ?_
        rw [nM_pw]
        refine ld_a0 (np := 176) dX7_coats_175 rfl ?_
        refine wl_iconst (np := 177) (v := 0) dX7_coats_176 rfl (rfl) ?_
        refine wl_puti (np := 180) dX7_coats_177 rfl fl_X7_116 nf_7_13 rfl (by assumption) ?_
        refine ld_a0 (np := 181) dX7_coats_180 rfl ?_
        refine wl_geti (np := 184) dX7_coats_181 rfl fl_X7_122 (by decide) (by assumption) ?_
        refine wl_if_eq (np := 187) (tg := 195) dX7_coats_184 rfl rfl (fun c_184 => ?_) (fun c_184 => ?_)
        · rw [gI_uI_nb (by omega), nM_wr] at c_184
          exact absurd c_184 (by decide)
        · refine wl_bipush (np := 189) (v := -20) dX7_coats_187 rfl (by decide) ?_
          refine ld_a0 (np := 190) dX7_coats_189 rfl ?_
          refine wl_geti (np := 193) dX7_coats_190 rfl fl_X7_119 (by decide) (by assumption) ?_
          refine wl_isub (np := 194) dX7_coats_193 rfl ?_
          refine wi_ret dX7_coats_194 rfl (rfl) (Nat.le_refl _) (Nat.le_refl _) ?_
          rw [gI_uI_nb (by omega), nM_at]
          exact ⟨rfl, good_taped hFs hR⟩
  -- no more coats
  have k147 : ∀ (k2 : Int32) (m : Mem), Wa mX7_coats (0, fun _ => 0) d 0 0 sh.length (PI sh (fun x m => x = (coT S kp P RR).1 ∧ GoodM sh me m (coT S kp P RR).2)) 152 [.ref 136, .int (nI kp), .int k2, .int 0, .float 0] [] sh m 0 0 → Wa mX7_coats (0, fun _ => 0) d 0 0 sh.length (PI sh (fun x m => x = (coT S kp P RR).1 ∧ GoodM sh me m (coT S kp P RR).2)) 147 [.ref 136, .int (nI kp), .int k2, .int 1, .float 0] [] sh m 0 0 := by
    intro k2 m h
    refine wl_iconst (np := 148) (v := 0) dX7_coats_147 rfl (rfl) ?_
    refine st_i3 (np := 149) dX7_coats_148 rfl (by decide) rfl ?_
    refine wl_goto (tg := 24) dX7_coats_149 rfl ?_
    refine ld_i3 (np := 25) dX7_coats_24 rfl ?_
    refine wl_if_eq (np := 28) (tg := 152) dX7_coats_25 rfl rfl (fun c_25 => ?_) (fun c_25 => ?_)
    · exact h
    · exact absurd rfl c_25
  have key : ∀ fuel k p r acc, k + fuel = 6 → 0 < fuel → acc.length = k → p ≤ n → rR r acc → rdS F n fuel p acc = RR → Wa mX7_coats (0, fun _ => 0) d 0 0 sh.length (PI sh (fun x m => x = (coT S kp P RR).1 ∧ GoodM sh me m (coT S kp P RR).2)) 28 [.ref 136, .int (nI kp), .int (nI k), .int 1, .float 0] [] sh (nM me p 0 r) 0 0 := by
    intro fuel
    induction fuel with
    | zero => intro k p r acc h h0; omega
    | succ fuel ih =>
      intro k p r acc hk6 _ hk hp hrr hrd
      -- the rest of a coat that is wrong
      have kW125 : ∀ p' r, RR = .inl p' → Wa mX7_coats (0, fun _ => 0) d 0 0 sh.length (PI sh (fun x m => x = (coT S kp P RR).1 ∧ GoodM sh me m (coT S kp P RR).2)) 125 [.ref 136, .int (nI kp), .int (nI k), .int 1, .float 0] [] sh (nM me p' 1 r) 0 0 := by
        intro p' r hr
        refine inc_2 (np := 128) (v := _ + 1) dX7_coats_125 rfl rfl (by decide) rfl ?_
        refine ld_i2 (np := 129) dX7_coats_128 rfl ?_
        refine wl_bipush (np := 131) (v := nI 6) dX7_coats_129 rfl (by decide) ?_
        refine wl_icmp_ge (np := 134) (tg := 147) dX7_coats_131 rfl rfl (fun c_131 => ?_) (fun c_131 => ?_)
        · exact k147 _ _ (kF p' r _ _ hr)
        · refine ld_a0 (np := 135) dX7_coats_134 rfl ?_
          refine wl_bipush (np := 137) (v := nI 59) dX7_coats_135 rfl (by decide) ?_
          refine ciV_1 (np := 140) dX7_coats_137 rfl lk_X7_142 (by assumption) (Nat.le_of_ble_eq_true rfl) (by omega) (Nat.le_refl _) (Nat.le_refl _) (c_M_has1 _ z0) (fun x_137 m_137 h_137 => ?_)
          obtain ⟨rfl, q_137⟩ := h_137
          have q_137 := q_137.symm
          subst q_137
          refine wl_if_eq (np := 143) (tg := 147) dX7_coats_140 rfl rfl (fun c_140 => ?_) (fun c_140 => ?_)
          · exact k147 _ _ (kF p' r _ _ hr)
          · exact absurd rfl c_140
      have kW92 : ∀ p' r, RR = .inl p' → Wa mX7_coats (0, fun _ => 0) d 0 0 sh.length (PI sh (fun x m => x = (coT S kp P RR).1 ∧ GoodM sh me m (coT S kp P RR).2)) 92 [.ref 136, .int (nI kp), .int (nI k), .int 1, .float 0] [] sh (nM me p' 1 r) 0 0 := by
        intro p' r hr
        refine ld_a0 (np := 93) dX7_coats_92 rfl ?_
        refine wl_getr (np := 96) dX7_coats_93 rfl fl_X7_37 rfl (by assumption) (by assumption) ?_
        refine wl_iconst (np := 97) (v := nI 4) dX7_coats_96 rfl (rfl) ?_
        refine ld_i2 (np := 98) dX7_coats_97 rfl ?_
        refine wl_imul (np := 99) dX7_coats_98 rfl ?_
        refine wl_iconst (np := 100) (v := nI 3) dX7_coats_99 rfl (rfl) ?_
        refine wl_iadd (np := 101) dX7_coats_100 rfl ?_
        refine ld_a0 (np := 102) dX7_coats_101 rfl ?_
        refine wl_bipush (np := 104) (v := nI 116) dX7_coats_102 rfl (by decide) ?_
        refine ciV_1 (np := 107) dX7_coats_104 rfl lk_X7_142 (by assumption) (Nat.le_of_ble_eq_true rfl) (by omega) (Nat.le_refl _) (Nat.le_refl _) (c_M_has1 _ z0) (fun x_104 m_104 h_104 => ?_)
        obtain ⟨rfl, q_104⟩ := h_104
        have q_104 := q_104.symm
        subst q_104
        refine wl_if_eq (np := 110) (tg := 123) dX7_coats_107 rfl rfl (fun c_107 => ?_) (fun c_107 => ?_)
        · refine wl_iconst (np := 124) (v := 1) dX7_coats_123 rfl (rfl) ?_
          refine wl_iastoreN (np := 125) dX7_coats_124 rfl (by first | (simp only [nM_at,nIm, nIa, ← nI_succ]; exact rfl) | exact nI_z | exact nI_o | exact rfl) (by assumption) (by omega) (by first | decide | omega) ?_
          rw [nM_pr]
          exact kW125 p' _ hr
        · exact absurd rfl c_107
      have kW62 : ∀ p' r, RR = .inl p' → Wa mX7_coats (0, fun _ => 0) d 0 0 sh.length (PI sh (fun x m => x = (coT S kp P RR).1 ∧ GoodM sh me m (coT S kp P RR).2)) 62 [.ref 136, .int (nI kp), .int (nI k), .int 1, .float 0] [] sh (nM me p' 1 r) 0 0 := by
        intro p' r hr
        refine ld_a0 (np := 63) dX7_coats_62 rfl ?_
        refine wl_getr (np := 66) dX7_coats_63 rfl fl_X7_37 rfl (by assumption) (by assumption) ?_
        refine wl_iconst (np := 67) (v := nI 4) dX7_coats_66 rfl (rfl) ?_
        refine ld_i2 (np := 68) dX7_coats_67 rfl ?_
        refine wl_imul (np := 69) dX7_coats_68 rfl ?_
        refine wl_iconst (np := 70) (v := nI 2) dX7_coats_69 rfl (rfl) ?_
        refine wl_iadd (np := 71) dX7_coats_70 rfl ?_
        refine ld_a0 (np := 72) dX7_coats_71 rfl ?_
        refine wl_bipush (np := 74) (v := nI 114) dX7_coats_72 rfl (by decide) ?_
        refine ciV_1 (np := 77) dX7_coats_74 rfl lk_X7_142 (by assumption) (Nat.le_of_ble_eq_true rfl) (by omega) (Nat.le_refl _) (Nat.le_refl _) (c_M_has1 _ z0) (fun x_74 m_74 h_74 => ?_)
        obtain ⟨rfl, q_74⟩ := h_74
        have q_74 := q_74.symm
        subst q_74
        refine wl_if_eq (np := 80) (tg := 90) dX7_coats_77 rfl rfl (fun c_77 => ?_) (fun c_77 => ?_)
        · refine wl_iconst (np := 91) (v := 0) dX7_coats_90 rfl (rfl) ?_
          refine wl_iastoreN (np := 92) dX7_coats_91 rfl (by first | (simp only [nM_at,nIm, nIa, ← nI_succ]; exact rfl) | exact nI_z | exact nI_o | exact rfl) (by assumption) (by omega) (by first | decide | omega) ?_
          rw [nM_pr]
          exact kW92 p' _ hr
        · exact absurd rfl c_77
      have kW44 : ∀ p' r, RR = .inl p' → Wa mX7_coats (0, fun _ => 0) d 0 0 sh.length (PI sh (fun x m => x = (coT S kp P RR).1 ∧ GoodM sh me m (coT S kp P RR).2)) 44 [.ref 136, .int (nI kp), .int (nI k), .int 1, .float 0] [] sh (nM me p' 1 r) 0 0 := by
        intro p' r hr
        refine ld_a0 (np := 45) dX7_coats_44 rfl ?_
        refine wl_getr (np := 48) dX7_coats_45 rfl fl_X7_37 rfl (by assumption) (by assumption) ?_
        refine wl_iconst (np := 49) (v := nI 4) dX7_coats_48 rfl (rfl) ?_
        refine ld_i2 (np := 50) dX7_coats_49 rfl ?_
        refine wl_imul (np := 51) dX7_coats_50 rfl ?_
        refine wl_iconst (np := 52) (v := 1) dX7_coats_51 rfl (rfl) ?_
        refine wl_iadd (np := 53) dX7_coats_52 rfl ?_
        refine ld_a0 (np := 54) dX7_coats_53 rfl ?_
        refine wl_iconst (np := 55) (v := 1) dX7_coats_54 rfl (rfl) ?_
        refine wl_sipush (np := 58) (v := nI 9999) dX7_coats_55 rfl (by decide) ?_
        refine ciV_2 (np := 61) dX7_coats_58 rfl lk_X7_139 (by assumption) (Nat.le_of_ble_eq_true rfl) (by omega) (Nat.le_refl _) (Nat.le_refl _) (c_M_number1 _ _ z0) (fun x_58 m_58 h_58 => ?_)
        obtain ⟨rfl, q_58⟩ := h_58
        have q_58 := q_58.symm
        subst q_58
        refine wl_iastoreN (np := 62) dX7_coats_61 rfl (by first | (simp only [nM_at,nIm, nIa, ← nI_succ]; exact rfl) | exact nI_z | exact nI_o | exact rfl) (by assumption) (by omega) (by first | decide | omega) ?_
        rw [nM_pr]
        exact kW62 p' _ hr
      have hstep : rdS F n (fuel + 1) p acc = match coatS F n p with
          | (p', none) => .inl p'
          | (p', some co) => if n ≤ skB F n p' then .inr (acc ++ [co]) else if fuel = 0 then .inl (skB F n p') else
              match skS F n (skB F n p') 59 with
              | (p3, true) => rdS F n fuel p3 (acc ++ [co])
              | (p3, false) => .inl p3 := rfl
      rw [hstep] at hrd
      have hsk := skB_le (f := F) hp
      -- behind a coat
      have k125 : ∀ p' l a b t, p' ≤ n → coatS F n p = (p', some (l, a, b, t)) → Wa mX7_coats (0, fun _ => 0) d 0 0 sh.length (PI sh (fun x m => x = (coT S kp P RR).1 ∧ GoodM sh me m (coT S kp P RR).2)) 125 [.ref 136, .int (nI kp), .int (nI k), .int 1, .float 0] [] sh (nM me p' 0 (upd (upd (upd (upd r (4 * k) l) (4 * k + 1) a) (4 * k + 2) b) (4 * k + 3) t)) 0 0 := by
        intro p' l a b t hp' hco
        rw [hco] at hrd
        dsimp only at hrd
        have hrr2 := rR.app (l := l) (a := a) (b := b) (t := t) hrr hk
        have hlen : (acc ++ [(l, a, b, t)]).length = k + 1 := by rw [List.length_append, hk]; rfl
        generalize acc ++ [(l, a, b, t)] = acc2 at hrd hrr2 hlen
        generalize upd (upd (upd (upd r (4 * k) l) (4 * k + 1) a) (4 * k + 2) b) (4 * k + 3) t = r2 at hrr2
        have hid := skB_idem (f := F) hp'
        have hs2 := skB_le (f := F) hp'
        have e1 : nI k + 1 = nI acc2.length := by rw [hlen, nI_succ]
        refine inc_2 (np := 128) (v := _ + 1) dX7_coats_125 rfl rfl (by decide) rfl ?_
        refine ld_i2 (np := 129) dX7_coats_128 rfl ?_
        refine wl_bipush (np := 131) (v := nI 6) dX7_coats_129 rfl (by decide) ?_
        refine wl_icmp_ge (np := 134) (tg := 147) dX7_coats_131 rfl rfl (fun c_131 => ?_) (fun c_131 => ?_)
        · rw [← nI_succ, nI_leI (by decide) (by omega)] at c_131
          rw [e1]
          refine k147 _ _ (kS p' r2 acc2 _ hp' (by omega) hrr2 ?_)
          rw [if_pos (show fuel = 0 by omega)] at hrd
          exact hrd.symm
        · rw [← nI_succ, nI_leI (by decide) (by omega)] at c_131
          rw [if_neg (show ¬ fuel = 0 by omega)] at hrd
          refine ld_a0 (np := 135) dX7_coats_134 rfl ?_
          refine wl_bipush (np := 137) (v := nI 59) dX7_coats_135 rfl (by decide) ?_
          refine ciV_1 (np := 140) dX7_coats_137 rfl lk_X7_142 (by assumption) (Nat.le_of_ble_eq_true rfl) (by omega) (Nat.le_refl _) (Nat.le_refl _) (c_M_has0 (nI 59) (by decide) (by decide) z0 g12 x12 hl hn hFF hp' (by omega)) (fun x_137 m_137 h_137 => ?_)
          obtain ⟨rfl, q_137⟩ := h_137
          have q_137 := q_137.symm
          subst q_137
          refine wl_if_eq (np := 143) (tg := 147) dX7_coats_140 rfl rfl (fun c_140 => ?_) (fun c_140 => ?_)
          · have hb : ¬ (skS F n p' (nI 59)).2 = true := if0 c_140
            have he : skS F n p' (nI 59) = (skB F n p', false) := by
              unfold skS at hb ⊢
              dsimp only at hb ⊢
              split
              · rename_i hh
                rw [if_pos hh] at hb
                exact absurd rfl hb
              · rfl
            rw [he, e1]
            refine k147 _ _ (kS (skB F n p') r2 acc2 _ hs2.2 (by omega) hrr2 ?_)
            rw [hid, ← hrd]
            have he2 : skS F n (skB F n p') 59 = (skB F n p', false) := by
              unfold skS at he ⊢
              rw [hid]
              exact he
            rw [he2]
          · have hb : (skS F n p' (nI 59)).2 = true := if1 c_140
            have hnb : nbI F n (skB F n p') = nI 59 := by
              unfold skS at hb
              dsimp only at hb
              split at hb
              · assumption
              · cases hb
            have he : skS F n p' (nI 59) = (skB F n p' + 1, true) := by
              unfold skS
              dsimp only
              rw [if_pos hnb]
            have he2 : skS F n (skB F n p') 59 = (skB F n p' + 1, true) := by
              unfold skS
              dsimp only
              rw [hid]
              exact if_pos hnb
            have hlt : ¬ n ≤ skB F n p' := fun h => by
              unfold nbI at hnb
              rw [if_neg (by omega)] at hnb
              exact absurd hnb (by decide)
            rw [if_neg hlt, he2] at hrd
            rw [he]
            refine wl_iconst (np := 144) (v := 1) dX7_coats_143 rfl (rfl) ?_
            refine wl_goto (tg := 148) dX7_coats_144 rfl ?_
            refine st_i3 (np := 149) dX7_coats_148 rfl (by decide) rfl ?_
            refine wl_goto (tg := 24) dX7_coats_149 rfl ?_
            refine ld_i3 (np := 25) dX7_coats_24 rfl ?_
            refine wl_if_eq (np := 28) (tg := 152) dX7_coats_25 rfl rfl (fun c_25 => ?_) (fun c_25 => ?_)
            · exact absurd c_25 (by decide)
            · rw [← nI_succ]
              exact ih (k + 1) _ r2 acc2 (by omega) (by omega) hlen (by omega) hrr2 hrd
      have k124 : ∀ p4 p6 l a b (o : Option Int32) (x : Int32) (m : Mem), p6 ≤ n → (coatS F n p = match o with | none => (p6, none) | some th => (p6, some (l, a, b, th))) → (match o with | none => m = nM me p6 1 (upd (upd (upd r (4 * k) l) (4 * k + 1) a) (4 * k + 2) b) | some th => x = th ∧ m = nM me p6 0 (upd (upd (upd r (4 * k) l) (4 * k + 1) a) (4 * k + 2) b)) → p4 = p6 → Wa mX7_coats (0, fun _ => 0) d 0 0 sh.length (PI sh (fun x m => x = (coT S kp P RR).1 ∧ GoodM sh me m (coT S kp P RR).2)) 124 [.ref 136, .int (nI kp), .int (nI k), .int 1, .float 0] [.int x, .int (nI 4 * nI k + nI 3), .ref 145] sh m 0 0 := by
        intro p4 p6 l a b o x m h6 hco hm _
        match o, hco, hm with
        | none, hco, hm =>
          subst hm
          rw [hco] at hrd
          refine wl_iastoreN (np := 125) dX7_coats_124 rfl (by first | (simp only [nM_at,nIm, nIa, ← nI_succ]; exact rfl) | exact nI_z | exact nI_o | exact rfl) (by assumption) (by omega) (by first | decide | omega) ?_
          rw [nM_pr]
          exact kW125 _ _ hrd.symm
        | some th, hco, hm =>
          obtain ⟨rfl, rfl⟩ := hm
          refine wl_iastoreN (np := 125) dX7_coats_124 rfl (by first | (simp only [nM_at,nIm, nIa, ← nI_succ]; exact rfl) | exact nI_z | exact nI_o | exact rfl) (by assumption) (by omega) (by first | decide | omega) ?_
          rw [nM_pr]
          exact k125 p6 l a b _ h6 hco
      have k91 : ∀ p4 l a (o : Option Int32) (x : Int32) (m : Mem), p4 ≤ n → (coatS F n p = match o with | none => (p4, none) | some b => match opS (skS F n p4 116).2 (digS F n (skS F n p4 116).1) (skS F n p4 116).1 1 with | (p6, none) => (p6, none) | (p6, some th) => (p6, some (l, a, b, th))) → (match o with | none => m = nM me p4 1 (upd (upd r (4 * k) l) (4 * k + 1) a) | some b => x = b ∧ m = nM me p4 0 (upd (upd r (4 * k) l) (4 * k + 1) a)) → Wa mX7_coats (0, fun _ => 0) d 0 0 sh.length (PI sh (fun x m => x = (coT S kp P RR).1 ∧ GoodM sh me m (coT S kp P RR).2)) 91 [.ref 136, .int (nI kp), .int (nI k), .int 1, .float 0] [.int x, .int (nI 4 * nI k + nI 2), .ref 145] sh m 0 0 := by
        intro p4 l a o x m h4 hco hm
        match o, hco, hm with
        | none, hco, hm =>
          subst hm
          rw [hco] at hrd
          refine wl_iastoreN (np := 92) dX7_coats_91 rfl (by first | (simp only [nM_at,nIm, nIa, ← nI_succ]; exact rfl) | exact nI_z | exact nI_o | exact rfl) (by assumption) (by omega) (by first | decide | omega) ?_
          rw [nM_pr]
          exact kW92 _ _ hrd.symm
        | some b, hco, hm =>
          obtain ⟨rfl, rfl⟩ := hm
          refine wl_iastoreN (np := 92) dX7_coats_91 rfl (by first | (simp only [nM_at,nIm, nIa, ← nI_succ]; exact rfl) | exact nI_z | exact nI_o | exact rfl) (by assumption) (by omega) (by first | decide | omega) ?_
          rw [nM_pr]
          have hsl := skS_le (f := F) (n := n) (p := p4) (c := 116) h4 (by decide)
          have hdl := digS_le (f := F) (n := n) hsl
          dsimp only at hco
          refine ld_a0 (np := 93) dX7_coats_92 rfl ?_
          refine wl_getr (np := 96) dX7_coats_93 rfl fl_X7_37 rfl (by assumption) (by assumption) ?_
          refine wl_iconst (np := 97) (v := nI 4) dX7_coats_96 rfl (rfl) ?_
          refine ld_i2 (np := 98) dX7_coats_97 rfl ?_
          refine wl_imul (np := 99) dX7_coats_98 rfl ?_
          refine wl_iconst (np := 100) (v := nI 3) dX7_coats_99 rfl (rfl) ?_
          refine wl_iadd (np := 101) dX7_coats_100 rfl ?_
          refine ld_a0 (np := 102) dX7_coats_101 rfl ?_
          refine wl_bipush (np := 104) (v := nI 116) dX7_coats_102 rfl (by decide) ?_
          refine ciV_1 (np := 107) dX7_coats_104 rfl lk_X7_142 (by assumption) (Nat.le_of_ble_eq_true rfl) (by omega) (Nat.le_refl _) (Nat.le_refl _) (c_M_has0 (nI 116) (by decide) (by decide) z0 g12 x12 hl hn hFF h4 (by omega)) (fun x_104 m_104 h_104 => ?_)
          obtain ⟨rfl, q_104⟩ := h_104
          have q_104 := q_104.symm
          subst q_104
          refine wl_if_eq (np := 110) (tg := 123) dX7_coats_107 rfl rfl (fun c_107 => ?_) (fun c_107 => ?_)
          · have hb : ¬ (skS F n p4 116).2 = true := if0 c_107
            have hb : (skS F n p4 116).2 = false := by
              cases hh : (skS F n p4 116).2 with
              | true => exact absurd hh hb
              | false => rfl
            rw [hb] at hco
            refine wl_iconst (np := 124) (v := 1) dX7_coats_123 rfl (rfl) ?_
            exact k124 _ (skS F n p4 116).1 l a _ (some 1) _ _ hsl hco ⟨rfl, rfl⟩ rfl
          · have hb : (skS F n p4 116).2 = true := if1 c_107
            rw [hb] at hco
            have hco : coatS F n p = match digS F n (skS F n p4 116).1 with | (p6, none) => (p6, none) | (p6, some th) => (p6, some (l, a, x, th)) := hco
            refine wl_iconst (np := 111) (v := 1) dX7_coats_110 rfl (rfl) ?_
            refine ld_a0 (np := 112) dX7_coats_111 rfl ?_
            refine wl_bipush (np := 114) (v := nI 49) dX7_coats_112 rfl (by decide) ?_
            refine wl_bipush (np := 116) (v := nI 57) dX7_coats_114 rfl (by decide) ?_
            refine ciV_2 (np := 119) dX7_coats_116 rfl lk_X7_135 (by assumption) (Nat.le_of_ble_eq_true rfl) (by omega) (Nat.le_refl _) (Nat.le_refl _) (c_M_byteOf0 (nI 49) (nI 57) z0 g12 x12 hl hn hFF hsl (by omega)) (fun x_116 m_116 h_116 => ?_)
            obtain ⟨d1, d2⟩ := byD (q := skB F n (skS F n p4 116).1) hok
            refine wl_iadd (np := 120) dX7_coats_119 rfl ?_
            refine wl_goto (tg := 124) dX7_coats_120 rfl ?_
            rcases h_116 with ⟨hy, rfl, rfl⟩ | ⟨hy, rfl⟩
            · obtain ⟨y1, y2, y3, y4⟩ := d1 hy
              have he : digS F n (skS F n p4 116).1 = (skB F n (skS F n p4 116).1 + 1, some (nbI F n (skB F n (skS F n p4 116).1) - 48)) := by
                unfold digS
                dsimp only
                rw [if_pos ⟨y3, y4⟩]
              rw [he] at hco
              exact k124 _ _ l a _ (some _) _ _ (by omega) hco ⟨y2, rfl⟩ rfl
            · have he : digS F n (skS F n p4 116).1 = (skB F n (skS F n p4 116).1, none) := by
                unfold digS
                dsimp only
                rw [if_neg (d2 hy)]
              rw [he] at hco
              have hsb := skB_le (f := F) hsl
              exact k124 _ _ l a _ none _ _ hsb.2 hco rfl rfl
      refine ld_a0 (np := 29) dX7_coats_28 rfl ?_
      refine wl_getr (np := 32) dX7_coats_29 rfl fl_X7_37 rfl (by assumption) (by assumption) ?_
      refine wl_iconst (np := 33) (v := nI 4) dX7_coats_32 rfl (rfl) ?_
      refine ld_i2 (np := 34) dX7_coats_33 rfl ?_
      refine wl_imul (np := 35) dX7_coats_34 rfl ?_
      refine ld_a0 (np := 36) dX7_coats_35 rfl ?_
      refine wl_bipush (np := 38) (v := nI 97) dX7_coats_36 rfl (by decide) ?_
      refine wl_bipush (np := 40) (v := nI 101) dX7_coats_38 rfl (by decide) ?_
      refine ciV_2 (np := 43) dX7_coats_40 rfl lk_X7_135 (by assumption) (Nat.le_of_ble_eq_true rfl) (by omega) (Nat.le_refl _) (Nat.le_refl _) (c_M_byteOf0 (nI 97) (nI 101) z0 g12 x12 hl hn hFF hp (by omega)) (fun x_40 m_40 h_40 => ?_)
      obtain ⟨d1, d2⟩ := byA (q := skB F n p) hok
      rcases h_40 with ⟨hy, rfl, rfl⟩ | ⟨hy, rfl⟩
      · obtain ⟨y1, y2, y3, y4⟩ := d1 hy
        rw [y2]
        generalize hlen : nbI F n (skB F n p) - 97 = l at y3 y4
        have hco : coatS F n p = match numS F n (skB F n p + 1) 1 9999 with
            | (p2, none) => (p2, none)
            | (p2, some a) =>
              match opS (skS F n p2 114).2 (numS F n (skS F n p2 114).1 0 20) (skS F n p2 114).1 0 with
              | (p4, none) => (p4, none)
              | (p4, some r) =>
                match opS (skS F n p4 116).2 (digS F n (skS F n p4 116).1) (skS F n p4 116).1 1 with
                | (p6, none) => (p6, none)
                | (p6, some th) => (p6, some (l, a, r, th)) := by
          unfold coatS
          dsimp only
          rw [hlen, if_pos ⟨y3, y4⟩]
          rfl
        refine wl_iastoreN (np := 44) dX7_coats_43 rfl (by first | (simp only [nM_at,nIm, nIa, ← nI_succ]; exact rfl) | exact nI_z | exact nI_o | exact rfl) (by assumption) (by omega) (by first | decide | omega) ?_
        rw [nM_pr]
        have hnl := numS_le (f := F) (n := n) (p := skB F n p + 1) (lo := 1) (hi := 9999) (by omega)
        refine ld_a0 (np := 45) dX7_coats_44 rfl ?_
        refine wl_getr (np := 48) dX7_coats_45 rfl fl_X7_37 rfl (by assumption) (by assumption) ?_
        refine wl_iconst (np := 49) (v := nI 4) dX7_coats_48 rfl (rfl) ?_
        refine ld_i2 (np := 50) dX7_coats_49 rfl ?_
        refine wl_imul (np := 51) dX7_coats_50 rfl ?_
        refine wl_iconst (np := 52) (v := 1) dX7_coats_51 rfl (rfl) ?_
        refine wl_iadd (np := 53) dX7_coats_52 rfl ?_
        refine ld_a0 (np := 54) dX7_coats_53 rfl ?_
        refine wl_iconst (np := 55) (v := 1) dX7_coats_54 rfl (rfl) ?_
        refine wl_sipush (np := 58) (v := nI 9999) dX7_coats_55 rfl (by decide) ?_
        refine ciV_2 (np := 61) dX7_coats_58 rfl lk_X7_139 (by assumption) (Nat.le_of_ble_eq_true rfl) (by omega) (Nat.le_refl _) (Nat.le_refl _) (c_M_number0 1 (nI 9999) (H := 9999) rfl (by omega) z0 g12 x12 hl hn hFF (show skB F n p + 1 ≤ n by omega) (by omega)) (fun x_58 m_58 h_58 => ?_)
        have h_58 : NumM me (upd r (4 * k) l) (numS F n (skB F n p + 1) 1 9999) x_58 m_58 := h_58
        generalize numS F n (skB F n p + 1) 1 9999 = N1 at h_58 hco hnl
        obtain ⟨p2, o2⟩ := N1
        dsimp only at hnl
        cases o2 with
        | none =>
          have h_58 : m_58 = nM me p2 1 (upd r (4 * k) l) := h_58
          subst h_58
          rw [hco] at hrd
          refine wl_iastoreN (np := 62) dX7_coats_61 rfl (by first | (simp only [nM_at,nIm, nIa, ← nI_succ]; exact rfl) | exact nI_z | exact nI_o | exact rfl) (by assumption) (by omega) (by first | decide | omega) ?_
          rw [nM_pr]
          exact kW62 _ _ hrd.symm
        | some a =>
          obtain ⟨rfl, rfl⟩ := (show x_58 = a ∧ m_58 = nM me p2 0 (upd r (4 * k) l) from h_58)
          refine wl_iastoreN (np := 62) dX7_coats_61 rfl (by first | (simp only [nM_at,nIm, nIa, ← nI_succ]; exact rfl) | exact nI_z | exact nI_o | exact rfl) (by assumption) (by omega) (by first | decide | omega) ?_
          rw [nM_pr]
          dsimp only at hco
          have hsl := skS_le (f := F) (n := n) (p := p2) (c := 114) hnl (by decide)
          have hnl2 := numS_le (f := F) (n := n) (lo := 0) (hi := 20) hsl
          refine ld_a0 (np := 63) dX7_coats_62 rfl ?_
          refine wl_getr (np := 66) dX7_coats_63 rfl fl_X7_37 rfl (by assumption) (by assumption) ?_
          refine wl_iconst (np := 67) (v := nI 4) dX7_coats_66 rfl (rfl) ?_
          refine ld_i2 (np := 68) dX7_coats_67 rfl ?_
          refine wl_imul (np := 69) dX7_coats_68 rfl ?_
          refine wl_iconst (np := 70) (v := nI 2) dX7_coats_69 rfl (rfl) ?_
          refine wl_iadd (np := 71) dX7_coats_70 rfl ?_
          refine ld_a0 (np := 72) dX7_coats_71 rfl ?_
          refine wl_bipush (np := 74) (v := nI 114) dX7_coats_72 rfl (by decide) ?_
          refine ciV_1 (np := 77) dX7_coats_74 rfl lk_X7_142 (by assumption) (Nat.le_of_ble_eq_true rfl) (by omega) (Nat.le_refl _) (Nat.le_refl _) (c_M_has0 (nI 114) (by decide) (by decide) z0 g12 x12 hl hn hFF hnl (by omega)) (fun x_74 m_74 h_74 => ?_)
          obtain ⟨rfl, q_74⟩ := h_74
          have q_74 := q_74.symm
          subst q_74
          refine wl_if_eq (np := 80) (tg := 90) dX7_coats_77 rfl rfl (fun c_77 => ?_) (fun c_77 => ?_)
          · have hb : ¬ (skS F n p2 114).2 = true := if0 c_77
            have hb : (skS F n p2 114).2 = false := by
              cases hh : (skS F n p2 114).2 with
              | true => exact absurd hh hb
              | false => rfl
            rw [hb] at hco
            refine wl_iconst (np := 91) (v := 0) dX7_coats_90 rfl (rfl) ?_
            exact k91 (skS F n p2 114).1 l _ (some 0) _ _ hsl hco ⟨rfl, rfl⟩
          · have hb : (skS F n p2 114).2 = true := if1 c_77
            rw [hb] at hco
            refine ld_a0 (np := 81) dX7_coats_80 rfl ?_
            refine wl_iconst (np := 82) (v := 0) dX7_coats_81 rfl (rfl) ?_
            refine wl_bipush (np := 84) (v := nI 20) dX7_coats_82 rfl (by decide) ?_
            refine ciV_2 (np := 87) dX7_coats_84 rfl lk_X7_139 (by assumption) (Nat.le_of_ble_eq_true rfl) (by omega) (Nat.le_refl _) (Nat.le_refl _) (c_M_number0 0 (nI 20) (H := 20) rfl (by omega) z0 g12 x12 hl hn hFF hsl (by omega)) (fun x_84 m_84 h_84 => ?_)
            have h_84 : NumM me (upd (upd r (4 * k) l) (4 * k + 1) x_58) (numS F n (skS F n p2 114).1 0 20) x_84 m_84 := h_84
            have hco : coatS F n p = match numS F n (skS F n p2 114).1 0 20 with
              | (p4, none) => (p4, none)
              | (p4, some r) =>
                match opS (skS F n p4 116).2 (digS F n (skS F n p4 116).1) (skS F n p4 116).1 1 with
                | (p6, none) => (p6, none)
                | (p6, some th) => (p6, some (l, x_58, r, th)) := hco
            generalize numS F n (skS F n p2 114).1 0 20 = N2 at h_84 hco hnl2
            obtain ⟨p4, o4⟩ := N2
            refine wl_goto (tg := 91) dX7_coats_87 rfl ?_
            cases o4 with
            | none => exact k91 p4 l _ none _ _ hnl2 hco h_84
            | some b => exact k91 p4 l _ (some b) _ _ hnl2 hco h_84
      · have hco : coatS F n p = (skB F n p, none) := by
          unfold coatS
          dsimp only
          rw [if_neg (d2 hy)]
        rw [hco] at hrd
        refine wl_iastoreN (np := 44) dX7_coats_43 rfl (by first | (simp only [nM_at,nIm, nIa, ← nI_succ]; exact rfl) | exact nI_z | exact nI_o | exact rfl) (by assumption) (by omega) (by first | decide | omega) ?_
        rw [nM_pr]
        exact kW44 _ _ hrd.symm
  refine ld_i3 (np := 25) dX7_coats_24 rfl ?_
  refine wl_if_eq (np := 28) (tg := 152) dX7_coats_25 rfl rfl (fun c_25 => ?_) (fun c_25 => ?_)
  · exact absurd c_25 (by decide)
  · exact key 6 0 0 (gI me 145) [] (by omega) (by omega) rfl (by omega) (fun c co hc => by simp at hc) hRR
set_option maxHeartbeats 4000000 in
set_option maxRecDepth 100000 in
theorem c_M_coats (p : Int32) (hF : FixM sh me) (hR : RepM me S) (hok : okB S.2.2.1.2 S.2.2.1.1) (hd : 3 ≤ d) : CI d mX7_coats sh [.ref 136, .int p] me (fun x m => x = (sp_coats S p).1 ∧ GoodM sh me m (sp_coats S p).2) := by
  have hFs := hF
  obtain ⟨z0, ⟨x1, x2, x4, x5, x6, x10, x11, x12, x16, x17, x18, x21, x22, x24, x25, x26, x27⟩, ⟨g1, g2, g4, g5, g6, g10, g11, g12, g16, g17, g18, g21, g22, g24, g25, g26, g27⟩, gs⟩ := hF
  have hn5 := hR.1.1.1
  obtain ⟨t1, t2, t3⟩ := id hR.2.2.1
  refine CI.mk (L := [.ref 136, .int p, .float 0, .float 0, .float 0]) (by decide) (Nat.le_of_ble_eq_true rfl) rfl ?_
  refine ld_a0 (np := 1) dX7_coats_0 rfl ?_
  refine ld_i1 (np := 2) dX7_coats_1 rfl ?_
  refine ciV_1 (np := 5) dX7_coats_2 rfl lk_X7_80 (by assumption) (Nat.le_of_ble_eq_true rfl) (by omega) (Nat.le_refl _) (Nat.le_refl _) (c_M_isOne p z0 hR.1.2.2.1 hn5 (by omega)) (fun x_2 m_2 h_2 => ?_)
  obtain ⟨h2, q2⟩ := h_2
  have q2 := q2.symm
  subst q2
  have h2 : x_2 = 1 ∧ isPn S.1.1 p ∨ x_2 = 0 ∧ ¬ isPn S.1.1 p := h2
  refine wl_if_ne (np := 8) (tg := 10) dX7_coats_5 rfl rfl (fun c_5 => ?_) (fun c_5 => ?_)
  · have hpn := or1 h2 c_5
    obtain ⟨kp, hkp, rfl⟩ := or1 h2 c_5
    obtain ⟨P, hPk⟩ : ∃ P, S.1.1[kp]? = some P := ⟨_, List.getElem?_eq_getElem hkp⟩
    unfold sp_coats
    rw [cif_t hpn, getP_nI hPk (by omega), nI_clamp (by omega)]
    have hokM : okB (gI me 144) S.2.2.1.1 := fun i hi => by rw [t3 i hi]; exact hok i hi
    have hrd : rdS (gI me 144) S.2.2.1.1 6 0 [] = rdS S.2.2.1.2 S.2.2.1.1 6 0 [] := rdS_congr hok t3
    refine ld_a0 (np := 11) dX7_coats_10 rfl ?_
    refine wl_iconst (np := 12) (v := 0) dX7_coats_11 rfl (rfl) ?_
    refine wl_puti (np := 15) dX7_coats_12 rfl fl_X7_119 nf_7_14 rfl (by assumption) ?_
    refine ld_a0 (np := 16) dX7_coats_15 rfl ?_
    refine wl_iconst (np := 17) (v := 0) dX7_coats_16 rfl (rfl) ?_
    refine wl_putz (np := 20) dX7_coats_17 rfl fl_X7_122 nf_7_15 rfl (by decide) (by assumption) ?_
    refine wl_iconst (np := 21) (v := 0) dX7_coats_20 rfl (rfl) ?_
    refine st_i2 (np := 22) dX7_coats_21 rfl (by decide) rfl ?_
    refine wl_iconst (np := 23) (v := 1) dX7_coats_22 rfl (rfl) ?_
    refine st_i3 (np := 24) dX7_coats_23 rfl (by decide) rfl ?_
    rw [nM_init]
    exact c_M_coats_main hFs hR hkp hPk t1 t2 rfl hokM hrd hd
  · unfold sp_coats
    rw [cif_f (or0 h2 c_5)]
    refine wl_iconst (np := 9) (v := -1) dX7_coats_8 rfl (rfl) ?_
    refine wi_ret dX7_coats_9 rfl (rfl) (Nat.le_refl _) (Nat.le_refl _) ?_
    exact ⟨rfl, GoodM.same hFs hR⟩
end M19
