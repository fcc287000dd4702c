/-! ===== free by an order ===== -/
def frM (me : Mem) (f : Nat → Int32) (pd : Int32) : Mem := uI (uA (uR me 136 3 (some 138)) 138 f) 136 19 pd
section M22
variable {sh : List Shp} {me : Mem} {d n p kk dy : Nat} {S : St} {P : Prs} {O : List Nat} {f : Nat → Int32} {pd : Int32}
theorem frM_f : gI (frM me f pd) 138 = f := (gI_uI_ne (by omega)).trans (gI_uAs _ _ _)
theorem frM_p : gI (frM me f pd) 136 19 = pd := gI_uI_self _ _ _ _
theorem frM_o {a : Nat} (h1 : a ≠ 136) (h2 : a ≠ 138) : gI (frM me f pd) a = gI me a := (gI_uI_ne h1).trans (gI_uAn h2)
theorem frM_b {b : Nat} (h1 : b ≠ 19) : gI (frM me f pd) 136 b = gI me 136 b := (gI_uI_nb h1).trans (congrFun (gI_uAn (by omega)) b)
theorem frM_R3 : gR (frM me f pd) 136 3 = some 138 := by
  show gR (uR me 136 3 (some 138)) 136 3 = some 138
  rw [gR_uR, if_pos ⟨rfl, rfl⟩]
theorem frM_R {b : Nat} (h : b ≠ 3) : gR (frM me f pd) 136 b = gR me 136 b := by
  show gR (uR me 136 3 (some 138)) 136 b = gR me 136 b
  rw [gR_uR, if_neg (fun q => h q.2)]
theorem frM_uA {g : Nat → Int32} : uA (frM me f pd) 138 g = frM me g pd := by
  apply mem_ext
  · intro a b
    simp only [frM, gI_uI, gI_uA]
    grind
  · rfl
theorem frM_uI {i : Nat} {x : Int32} : uI (frM me f pd) 138 i x = frM me (upF f i x) pd := by
  rw [uI_eq, frM_f, frM_uA]
theorem frM_up {x : Int32} : uI (frM me f pd) 136 19 x = frM me f x := uI_uI _ _ _ _ _
theorem lf_app {pre o : List Nat} {c : Nat} : lf (pre ++ c :: o) pre.length = c := by
  unfold lf
  simp [List.getD]
theorem lf_pre {pre o : List Nat} {j : Nat} (h : j < pre.length) : lf (pre ++ o) j = pre[j] := by
  unfold lf
  rw [List.getD_eq_getElem?_getD, List.getElem?_append_left h, List.getElem?_eq_getElem h]
  rfl
theorem cntL_s {pre : List Nat} {j c : Nat} (h : j < pre.length) : cntL (pre.take (j + 1)) c = cntL (pre.take j) c + (if pre[j] < c then 1 else 0) := by
  unfold cntL
  rw [List.take_succ, List.getElem?_eq_getElem h, List.filter_append, List.length_append]
  congr 1
  by_cases hh : pre[j] < c
  · rw [if_pos hh]
    simp [hh]
  · rw [if_neg hh]
    simp [hh]
theorem st_pay {m c : Nat} {pp : Int32} {A : Nat → Int32} (h6 : P.2.1.length ≤ 6) (hm : m < 64) (hc : c < P.2.1.length) (hb : m.testBit c = true) : payP (stP P m pp A) (rnk m c) = stP P (m - 2 ^ c) (pp - A c) A := by
  have h1 := st_take (p := pp) (A := A) h6 hm hc hb
  have h2 := st_get (p := pp) (A := A) h6 hm hc hb
  have h1 : (stP P m pp A).2.1.eraseIdx (rnk m c) = (stP P (m - 2 ^ c) pp A).2.1 := congrArg (fun z => z.2.1) h1
  unfold payP
  rw [h2, h1]
  rfl
def QF (me : Mem) (T : Option (Nat × Int32)) (x : Int32) (m : Mem) : Prop := ∃ f pd, m = frM me f pd ∧ match T with
  | some (dy, pd') => x = nI dy ∧ pd = pd'
  | none => x = nI 361
set_option maxHeartbeats 4000000 in
set_option maxRecDepth 100000 in
theorem c_M_freeBy {T : Option (Nat × Int32)} (hF : FixM sh me) (hs : RepQ (gI me 148) 0 P) (ht : RepT (gI me 139) p P) (hp : p < 5) (hn : P.2.1.length ≤ 6) (hOl : O.length = P.2.1.length) (hOk : okO P.2.1.length (2 ^ P.2.1.length - 1) [] O = true) (hO : ∀ i, i < P.2.1.length → gI me 146 i = nI (lf O i)) (hOb : ∀ i, lf O i < 2 ^ 31) (hok : okPr kk dy P) (hkd : 10000 * kk + 99 * (dy + 361) ≤ 900000) (hT : sim (rOf P) (tOf P) P.1.2.1 P.2.1.length O (2 ^ P.2.1.length - 1) 0 P.1.1 (aOf P) 0 = T) (hd : 2 ≤ d) : CI d mX7_freeBy sh [.ref 136, .int (nI p), .int (nI P.2.1.length)] me (fun x m => QF me T x m) := by
  have hFs := hF
  obtain ⟨z0, ⟨x1, x2, x4, x5, x6, x10, x11, x12, x16, x17, x18, x21, x22, x24, x25, x26, x27⟩, ⟨g1, g2, g4, g5, g6, g10, g11, g12, g16, g17, g18, g21, g22, g24, g25, g26, g27⟩, gs⟩ := hF
  refine CI.mk (L := [.ref 136, .int (nI p), .int (nI P.2.1.length), .float 0, .float 0, .float 0, .float 0, .float 0, .float 0]) (by decide) (Nat.le_of_ble_eq_true rfl) rfl ?_
  have key : ∀ fu night, 360 - night < fu → night ≤ 360 → ∀ fu2 (o2 : List Nat), o2.length < fu2 → ∀ pre c m A pp f pd, O = pre ++ c :: o2 → okO P.2.1.length m pre (c :: o2) = true → m < 64 → RepQ f p (stP P m pp A) → okPr kk (dy + night) (stP P m pp A) → sim (rOf P) (tOf P) P.1.2.1 P.2.1.length (c :: o2) m night pp A pd = T → ∀ w7 w8, Wa mX7_freeBy (0, fun _ => 0) d 0 0 sh.length (PI sh (fun x m => QF me T x m)) 82 [.ref 136, .int (nI p), .int (nI P.2.1.length), .int (nI (40 * p)), .int (nI pre.length), .int (nI night), .int 1, w7, w8] [] sh (frM me f pd) 0 0 := by
    intro fu
    induction fu with
    | zero => intro night h; omega
    | succ fu ih =>
      intro night hfu hni fu2
      induction fu2 with
      | zero => intro o2 h; omega
      | succ fu2 ih2 =>
        intro o2 ho2 pre c m A pp f pd hOe hok2 hm hq hokp hsim w7 w8
        obtain ⟨hcn, hcb, hcl, hrk, hok3⟩ := okO_cons hok2
        have hOlen := congrArg List.length hOe
        rw [hOl, List.length_append, List.length_cons] at hOlen
        have hpl : pre.length < P.2.1.length := by omega
        have oc : gI (frM me f pd) 146 pre.length = nI c := by rw [frM_o (by omega) (by omega), hO _ hpl, hOe, lf_app]
        have oj : ∀ j (hj : j < pre.length), gI (frM me f pd) 146 j = nI (pre[j]) := fun j hj => by rw [frM_o (by omega) (by omega), hO j (by omega), hOe, lf_pre hj]
        have oj6 : ∀ j (hj : j < pre.length), pre[j] < 2 ^ 31 := fun j hj => by
          have h1 := lf_pre (o := c :: o2) hj
          rw [← hOe] at h1
          rw [← h1]
          exact hOb j
        have hge := st_get (p := pp) (A := A) hn hm hcn hcb
        have hrl : rnk m c < (stP P m pp A).2.1.length := (List.getElem?_eq_some_iff.mp hge).1
        have hl6 := st_len (p := pp) (A := A) hn hm
        have ham : f (40 * p + 8 + 4 * rnk m c + 1) = A c := (hq.2.2.2.2.2.2.2 _ _ hge).2.1
        have hpu : f (40 * p) = pp := hq.1
        have hm2 := (bits_facts _ hn m hm c hcn hcb).2.2
        -- he can't pay it yet
        have kno : pp < A c → ∀ w6 w7 w8, Wa mX7_freeBy (0, fun _ => 0) d 0 0 sh.length (PI sh (fun x m => QF me T x m)) 223 [.ref 136, .int (nI p), .int (nI P.2.1.length), .int (nI (40 * p)), .int (nI pre.length), .int (nI night), .int w6, w7, w8] [] sh (frM me f pd) 0 0 := by
          intro hlt w6 w7 w8
          refine ld_i4 (np := 225) dX7_freeBy_223 rfl ?_
          refine ld_i2 (np := 226) dX7_freeBy_225 rfl ?_
          refine wl_icmp_ne (np := 229) (tg := 232) dX7_freeBy_226 rfl rfl (fun c_226 => ?_) (fun c_226 => ?_)
          · refine ld_a0 (np := 233) dX7_freeBy_232 rfl ?_
            refine ld_i1 (np := 234) dX7_freeBy_233 rfl ?_
            refine cvV_1 (np := 237) dX7_freeBy_234 rfl lk_X7_158 (by assumption) (Nat.le_of_ble_eq_true rfl) (by omega) (Nat.le_refl _) (Nat.le_refl _) (c_M_rests (A := 138) z0 frM_R3 x2 ((frM_R (by decide)).trans g4) x4 (Or.inr rfl) (by rw [frM_f]; exact hq) (by rw [frM_o (by omega) (by omega)]; exact ht) hp ⟨kk, dy + night, hokp, by omega⟩ (by omega)) (fun m_234 h_234 => ?_)
            obtain ⟨f2, rfl, hf2, hq2⟩ := h_234
            rw [frM_uA]
            rw [st_rest hn hm] at hq2
            have hok4 := ok_rest hokp (by omega) (by omega)
            rw [st_rest hn hm] at hok4
            refine inc_5 (np := 240) (v := _ + 1) dX7_freeBy_237 rfl rfl (by decide) rfl ?_
            refine wl_goto (tg := 56) dX7_freeBy_240 rfl ?_
            rw [← nI_succ]
            refine ld_i5 (np := 58) dX7_freeBy_56 rfl ?_
            refine wl_sipush (np := 61) (v := nI 360) dX7_freeBy_58 rfl (by decide) ?_
            refine wl_icmp_gt (np := 64) (tg := 243) dX7_freeBy_61 rfl rfl (fun c_61 => ?_) (fun c_61 => ?_)
            · rw [nI_ltI (by decide) (by omega)] at c_61
              have h360 : night = 360 := by omega
              subst h360
              rw [sim_none hlt] at hsim
              subst hsim
              refine wl_sipush (np := 246) (v := nI 361) dX7_freeBy_243 rfl (by decide) ?_
              refine wi_ret dX7_freeBy_246 rfl (rfl) (Nat.le_refl _) (Nat.le_refl _) ?_
              exact ⟨_, _, rfl, rfl⟩
            · rw [nI_ltI (by decide) (by omega)] at c_61
              refine ld_i4 (np := 66) dX7_freeBy_64 rfl ?_
              refine ld_i2 (np := 67) dX7_freeBy_66 rfl ?_
              refine wl_icmp_ge (np := 70) (tg := 74) dX7_freeBy_67 rfl rfl (fun c_67 => ?_) (fun c_67 => ?_)
              · rw [nI_leI (by omega) (by omega)] at c_67
                omega
              · refine wl_iconst (np := 71) (v := 1) dX7_freeBy_70 rfl (rfl) ?_
                refine wl_goto (tg := 75) dX7_freeBy_71 rfl ?_
                refine st_i6 (np := 77) dX7_freeBy_75 rfl (by decide) rfl ?_
                refine ld_i6 (np := 79) dX7_freeBy_77 rfl ?_
                refine wl_if_eq (np := 82) (tg := 223) dX7_freeBy_79 rfl rfl (fun c_79 => ?_) (fun c_79 => ?_)
                · exact absurd c_79 (by decide)
                · rw [sim_wait hlt (by omega)] at hsim
                  exact ih (night + 1) (by omega) (by omega) (o2.length + 1) o2 (by omega) pre c m _ _ f2 pd hOe hok2 hm hq2 hok4 hsim _ _
          · rw [nI_eq (by omega) (by omega)] at c_226
            omega
        have k134 : ∀ w8, Wa mX7_freeBy (0, fun _ => 0) d 0 0 sh.length (PI sh (fun x m => QF me T x m)) 134 [.ref 136, .int (nI p), .int (nI P.2.1.length), .int (nI (40 * p)), .int (nI pre.length), .int (nI night), .int 1, .int (nI (rnk m c)), w8] [] sh (frM me f pd) 0 0 := by
          intro w8
          refine ld_a0 (np := 135) dX7_freeBy_134 rfl ?_
          refine wl_getr (np := 138) dX7_freeBy_135 rfl fl_X7_13 rfl (by assumption) (by first | assumption | (refine (frM_R (by decide)).trans ?_; assumption)) ?_
          refine ld_i3 (np := 139) dX7_freeBy_138 rfl ?_
          refine wl_bipush (np := 141) (v := nI 8) dX7_freeBy_139 rfl (by decide) ?_
          refine wl_iadd (np := 142) dX7_freeBy_141 rfl ?_
          refine wl_iconst (np := 143) (v := nI 4) dX7_freeBy_142 rfl (rfl) ?_
          refine ld_i7 (np := 145) dX7_freeBy_143 rfl ?_
          refine wl_imul (np := 146) dX7_freeBy_145 rfl ?_
          refine wl_iadd (np := 147) dX7_freeBy_146 rfl ?_
          refine wl_iconst (np := 148) (v := 1) dX7_freeBy_147 rfl (rfl) ?_
          refine wl_iadd (np := 149) dX7_freeBy_148 rfl ?_
          refine wl_ialoadN (np := 150) dX7_freeBy_149 rfl (by first | (simp only [nIm, nIa, ← nI_succ]; exact rfl) | exact nI_z | exact nI_o | exact rfl) (by assumption) (by omega) (by first | decide | omega) ?_
          refine st_i8 (np := 152) dX7_freeBy_150 rfl (by decide) rfl ?_
          refine ld_a0 (np := 153) dX7_freeBy_152 rfl ?_
          refine wl_getr (np := 156) dX7_freeBy_153 rfl fl_X7_13 rfl (by assumption) (by first | assumption | (refine (frM_R (by decide)).trans ?_; assumption)) ?_
          refine ld_i3 (np := 157) dX7_freeBy_156 rfl ?_
          refine wl_ialoadN (np := 158) dX7_freeBy_157 rfl (by first | (simp only [nIm, nIa, ← nI_succ]; exact rfl) | exact nI_z | exact nI_o | exact rfl) (by assumption) (by omega) (by first | decide | omega) ?_
          refine ld_i8 (np := 160) dX7_freeBy_158 rfl ?_
          refine wl_icmp_lt (np := 163) (tg := 167) dX7_freeBy_160 rfl rfl (fun c_160 => ?_) (fun c_160 => ?_)
          · rw [frM_f, ham, hpu] at c_160
            refine wl_iconst (np := 168) (v := 0) dX7_freeBy_167 rfl (rfl) ?_
            refine st_i6 (np := 170) dX7_freeBy_168 rfl (by decide) rfl ?_
            refine ld_i6 (np := 172) dX7_freeBy_170 rfl ?_
            refine wl_if_eq (np := 175) (tg := 220) dX7_freeBy_172 rfl rfl (fun c_172 => ?_) (fun c_172 => ?_)
            · refine wl_goto (tg := 77) dX7_freeBy_220 rfl ?_
              refine ld_i6 (np := 79) dX7_freeBy_77 rfl ?_
              refine wl_if_eq (np := 82) (tg := 223) dX7_freeBy_79 rfl rfl (fun c_79 => ?_) (fun c_79 => ?_)
              · exact kno c_160 _ _ _
              · exact absurd rfl c_79
            · exact absurd rfl c_172
          · rw [frM_f, ham, hpu] at c_160
            have hnl : ¬ pp < A c := c_160
            rw [sim_pay hnl] at hsim
            have hq1 : RepQ (upF f (40 * p) (pp - A c)) p (stP P m (pp - A c) A) := by
              obtain ⟨q1, q2, q3, q4, q5, q6, q7, q8⟩ := hq
              refine ⟨upF_s _ _ _, (upF_n (by omega)).trans q2, (upF_n (by omega)).trans q3, (upF_n (by omega)).trans q4, q5, (upF_n (by omega)).trans q6, (upF_n (by omega)).trans q7, fun e co he => ?_⟩
              obtain ⟨r1, r2, r3, r4⟩ := q8 e co he
              exact ⟨(upF_n (by omega)).trans r1, (upF_n (by omega)).trans r2, (upF_n (by omega)).trans r3, (upF_n (by omega)).trans r4⟩
            have hok4 : okPr kk (dy + night) (stP P (m - 2 ^ c) (pp - A c) A) := by
              have h := ok_pay hokp hrl (by
                unfold amtOf
                rw [hge]
                exact hnl)
              rw [st_pay hn hm hcn hcb] at h
              exact h
            have hrl1 : rnk m c < (stP P m (pp - A c) A).2.1.length := hrl
            refine wl_iconst (np := 164) (v := 1) dX7_freeBy_163 rfl (rfl) ?_
            refine wl_goto (tg := 168) dX7_freeBy_164 rfl ?_
            refine st_i6 (np := 170) dX7_freeBy_168 rfl (by decide) rfl ?_
            refine ld_i6 (np := 172) dX7_freeBy_170 rfl ?_
            refine wl_if_eq (np := 175) (tg := 220) dX7_freeBy_172 rfl rfl (fun c_172 => ?_) (fun c_172 => ?_)
            · exact absurd c_172 (by decide)
            · skip
              refine ld_a0 (np := 176) dX7_freeBy_175 rfl ?_
              refine wl_getr (np := 179) dX7_freeBy_176 rfl fl_X7_13 rfl (by assumption) (by first | assumption | (refine (frM_R (by decide)).trans ?_; assumption)) ?_
              refine ld_i3 (np := 180) dX7_freeBy_179 rfl ?_
              refine wl_dup2 (np := 181) dX7_freeBy_180 rfl rfl rfl ?_
              refine wl_ialoadN (np := 182) dX7_freeBy_181 rfl (by first | (simp only [nIm, nIa, ← nI_succ]; exact rfl) | exact nI_z | exact nI_o | exact rfl) (by assumption) (by omega) (by first | decide | omega) ?_
              refine ld_i8 (np := 184) dX7_freeBy_182 rfl ?_
              refine wl_isub (np := 185) dX7_freeBy_184 rfl ?_
              refine wl_iastoreN (np := 186) dX7_freeBy_185 rfl (by first | (simp only [nIm, nIa, ← nI_succ]; exact rfl) | exact nI_z | exact nI_o | exact rfl) (by assumption) (by omega) (by first | decide | omega) ?_
              rw [frM_f, ham, hpu, frM_uI]
              refine ld_a0 (np := 187) dX7_freeBy_186 rfl ?_
              refine wl_dup (np := 188) dX7_freeBy_187 rfl rfl ?_
              refine wl_geti (np := 191) dX7_freeBy_188 rfl fl_X7_192 (by decide) (by assumption) ?_
              refine ld_i8 (np := 193) dX7_freeBy_191 rfl ?_
              refine wl_iadd (np := 194) dX7_freeBy_193 rfl ?_
              refine wl_puti (np := 197) dX7_freeBy_194 rfl fl_X7_192 nf_7_19 rfl (by assumption) ?_
              rw [frM_p, frM_up]
              refine ld_a0 (np := 198) dX7_freeBy_197 rfl ?_
              refine ld_i1 (np := 199) dX7_freeBy_198 rfl ?_
              refine ld_i7 (np := 201) dX7_freeBy_199 rfl ?_
              refine cvV_2 (np := 204) dX7_freeBy_201 rfl lk_X7_173 (by assumption) (Nat.le_of_ble_eq_true rfl) (by omega) (Nat.le_refl _) (Nat.le_refl _) (c_M_off (A := 138) z0 frM_R3 x2 (by rw [frM_f]; exact hq1) hrl1 hp) (fun m_201 h_201 => ?_)
              obtain ⟨f2, rfl, hf2, hq2⟩ := h_201
              rw [frM_uA]
              rw [st_take hn hm hcn hcb] at hq2
              refine inc_4 (np := 207) (v := _ + 1) dX7_freeBy_204 rfl rfl (by decide) rfl ?_
              refine ld_i4 (np := 209) dX7_freeBy_207 rfl ?_
              refine ld_i2 (np := 210) dX7_freeBy_209 rfl ?_
              refine wl_icmp_ge (np := 213) (tg := 217) dX7_freeBy_210 rfl rfl (fun c_210 => ?_) (fun c_210 => ?_)
              · rw [← nI_succ, nI_leI (by omega) (by omega)] at c_210
                have ho0 : o2 = [] := List.eq_nil_of_length_eq_zero (by omega)
                subst ho0
                have hsim : some (night, pd + A c) = T := hsim
                subst hsim
                refine wl_iconst (np := 218) (v := 0) dX7_freeBy_217 rfl (rfl) ?_
                refine st_i6 (np := 220) dX7_freeBy_218 rfl (by decide) rfl ?_
                refine wl_goto (tg := 77) dX7_freeBy_220 rfl ?_
                refine ld_i6 (np := 79) dX7_freeBy_77 rfl ?_
                refine wl_if_eq (np := 82) (tg := 223) dX7_freeBy_79 rfl rfl (fun c_79 => ?_) (fun c_79 => ?_)
                · refine ld_i4 (np := 225) dX7_freeBy_223 rfl ?_
                  refine ld_i2 (np := 226) dX7_freeBy_225 rfl ?_
                  refine wl_icmp_ne (np := 229) (tg := 232) dX7_freeBy_226 rfl rfl (fun c_226 => ?_) (fun c_226 => ?_)
                  · rw [← nI_succ, nI_eq (by omega) (by omega)] at c_226
                    rw [List.length_nil] at hOlen
                    omega
                  · refine ld_i5 (np := 231) dX7_freeBy_229 rfl ?_
                    refine wi_ret dX7_freeBy_231 rfl (rfl) (Nat.le_refl _) (Nat.le_refl _) ?_
                    exact ⟨_, _, rfl, rfl, rfl⟩
                · exact absurd rfl c_79
              · rw [← nI_succ, nI_leI (by omega) (by omega)] at c_210
                match o2, ho2, hOe, hok3, hsim, hOlen with
                | [], ho2, hOe, hok3, hsim, hOlen =>
                  rw [List.length_nil] at hOlen
                  omega
                | c2 :: o3, ho2, hOe, hok3, hsim, hOlen =>
                  refine wl_iconst (np := 214) (v := 1) dX7_freeBy_213 rfl (rfl) ?_
                  refine wl_goto (tg := 218) dX7_freeBy_214 rfl ?_
                  refine st_i6 (np := 220) dX7_freeBy_218 rfl (by decide) rfl ?_
                  refine wl_goto (tg := 77) dX7_freeBy_220 rfl ?_
                  refine ld_i6 (np := 79) dX7_freeBy_77 rfl ?_
                  refine wl_if_eq (np := 82) (tg := 223) dX7_freeBy_79 rfl rfl (fun c_79 => ?_) (fun c_79 => ?_)
                  · exact absurd c_79 (by decide)
                  · have h := ih2 o3 (by rw [List.length_cons] at ho2; omega) (pre ++ [c]) c2 (m - 2 ^ c) A (pp - A c) f2 (pd + A c) (by rw [List.append_assoc]; exact hOe) hok3 hm2 hq2 hok4 hsim
                    rw [List.length_append, List.length_cons, List.length_nil] at h
                    rw [← nI_succ]
                    exact h _ _
        have k94 : ∀ fu3 j, j + fu3 = pre.length → Wa mX7_freeBy (0, fun _ => 0) d 0 0 sh.length (PI sh (fun x m => QF me T x m)) 94 [.ref 136, .int (nI p), .int (nI P.2.1.length), .int (nI (40 * p)), .int (nI pre.length), .int (nI night), .int 1, .int (nI c - nI (cntL (pre.take j) c)), .int (nI j)] [] sh (frM me f pd) 0 0 := by
          intro fu3
          induction fu3 with
          | zero =>
            intro j hj
            have hje : j = pre.length := by omega
            subst hje
            refine ld_i8 (np := 96) dX7_freeBy_94 rfl ?_
            refine ld_i4 (np := 98) dX7_freeBy_96 rfl ?_
            refine wl_icmp_ge (np := 101) (tg := 134) dX7_freeBy_98 rfl rfl (fun c_98 => ?_) (fun c_98 => ?_)
            · rw [List.take_length, nI_subI hcl, ← hrk]
              exact k134 _
            · exact absurd (Int32.le_refl _) c_98
          | succ fu3 ih3 =>
            intro j hj
            have hjl : j < pre.length := by omega
            have hst : nI c - nI (cntL (pre.take j) c) - (if pre[j] < c then 1 else 0) = nI c - nI (cntL (pre.take (j + 1)) c) := by
              rw [cntL_s hjl]
              by_cases hh : pre[j] < c
              · rw [if_pos hh, if_pos hh, nI_succ, Int32.sub_sub]
              · rw [if_neg hh, if_neg hh, Int32.sub_zero, Nat.add_zero]
            refine ld_i8 (np := 96) dX7_freeBy_94 rfl ?_
            refine ld_i4 (np := 98) dX7_freeBy_96 rfl ?_
            refine wl_icmp_ge (np := 101) (tg := 134) dX7_freeBy_98 rfl rfl (fun c_98 => ?_) (fun c_98 => ?_)
            · rw [nI_leI (by omega) (by omega)] at c_98
              omega
            · refine ld_i7 (np := 103) dX7_freeBy_101 rfl ?_
              refine ld_a0 (np := 104) dX7_freeBy_103 rfl ?_
              refine wl_getr (np := 107) dX7_freeBy_104 rfl fl_X7_40 rfl (by assumption) (by first | assumption | (refine (frM_R (by decide)).trans ?_; assumption)) ?_
              refine ld_i8 (np := 109) dX7_freeBy_107 rfl ?_
              refine wl_ialoadN (np := 110) dX7_freeBy_109 rfl (by first | (simp only [nIm, nIa, ← nI_succ]; exact rfl) | exact nI_z | exact nI_o | exact rfl) (by assumption) (by omega) (by first | decide | omega) ?_
              refine ld_a0 (np := 111) dX7_freeBy_110 rfl ?_
              refine wl_getr (np := 114) dX7_freeBy_111 rfl fl_X7_40 rfl (by assumption) (by first | assumption | (refine (frM_R (by decide)).trans ?_; assumption)) ?_
              refine ld_i4 (np := 116) dX7_freeBy_114 rfl ?_
              refine wl_ialoadN (np := 117) dX7_freeBy_116 rfl (by first | (simp only [nIm, nIa, ← nI_succ]; exact rfl) | exact nI_z | exact nI_o | exact rfl) (by assumption) (by omega) (by first | decide | omega) ?_
              refine wl_icmp_ge (np := 120) (tg := 124) dX7_freeBy_117 rfl rfl (fun c_117 => ?_) (fun c_117 => ?_)
              · rw [oc, oj j hjl, nI_leI (by omega) (oj6 j hjl)] at c_117
                rw [if_neg (by omega)] at hst
                refine wl_iconst (np := 125) (v := 0) dX7_freeBy_124 rfl (rfl) ?_
                refine wl_isub (np := 126) dX7_freeBy_125 rfl ?_
                refine st_i7 (np := 128) dX7_freeBy_126 rfl (by decide) rfl ?_
                refine inc_8 (np := 131) (v := _ + 1) dX7_freeBy_128 rfl rfl (by decide) rfl ?_
                refine wl_goto (tg := 94) dX7_freeBy_131 rfl ?_
                rw [hst, ← nI_succ]
                exact ih3 (j + 1) (by omega)
              · rw [oc, oj j hjl, nI_leI (by omega) (oj6 j hjl)] at c_117
                rw [if_pos (by omega)] at hst
                refine wl_iconst (np := 121) (v := 1) dX7_freeBy_120 rfl (rfl) ?_
                refine wl_goto (tg := 125) dX7_freeBy_121 rfl ?_
                refine wl_isub (np := 126) dX7_freeBy_125 rfl ?_
                refine st_i7 (np := 128) dX7_freeBy_126 rfl (by decide) rfl ?_
                refine inc_8 (np := 131) (v := _ + 1) dX7_freeBy_128 rfl rfl (by decide) rfl ?_
                refine wl_goto (tg := 94) dX7_freeBy_131 rfl ?_
                rw [hst, ← nI_succ]
                exact ih3 (j + 1) (by omega)
        refine ld_a0 (np := 83) dX7_freeBy_82 rfl ?_
        refine wl_getr (np := 86) dX7_freeBy_83 rfl fl_X7_40 rfl (by assumption) (by first | assumption | (refine (frM_R (by decide)).trans ?_; assumption)) ?_
        refine ld_i4 (np := 88) dX7_freeBy_86 rfl ?_
        refine wl_ialoadN (np := 89) dX7_freeBy_88 rfl (by first | (simp only [nIm, nIa, ← nI_succ]; exact rfl) | exact nI_z | exact nI_o | exact rfl) (by assumption) (by omega) (by first | decide | omega) ?_
        refine st_i7 (np := 91) dX7_freeBy_89 rfl (by decide) rfl ?_
        refine wl_iconst (np := 92) (v := 0) dX7_freeBy_91 rfl (rfl) ?_
        refine st_i8 (np := 94) dX7_freeBy_92 rfl (by decide) rfl ?_
        rw [oc]
        have h := k94 pre.length 0 (by omega)
        rw [show nI c - nI (cntL (pre.take 0) c) = nI c from Int32.sub_zero _] at h
        exact h
  have kcp : ∀ fu j (g : Nat → Int32), j + fu = 40 → (∀ i, i < j → g (40 * p + i) = gI me 148 i) → Wa mX7_freeBy (0, fun _ => 0) d 0 0 sh.length (PI sh (fun x m => QF me T x m)) 8 [.ref 136, .int (nI p), .int (nI P.2.1.length), .int (nI (40 * p)), .int (nI j), .float 0, .float 0, .float 0, .float 0] [] sh (uA me 138 g) 0 0 := by
    intro fu
    induction fu with
    | zero =>
      intro j g hj hg
      have hq0 : RepQ g p (stP P (2 ^ P.2.1.length - 1) P.1.1 (aOf P)) := by
        rw [st_full hn]
        refine hs.sft (fun i hi => ?_)
        rw [hg i (by omega), show 40 * 0 + i = i by omega]
      have hok0 : okPr kk (dy + 0) (stP P (2 ^ P.2.1.length - 1) P.1.1 (aOf P)) := by
        rw [st_full hn]
        exact hok
      have em : uI (uR (uA me 138 g) 136 3 (some 138)) 136 19 0 = frM me g 0 := rfl
      refine ld_i4 (np := 10) dX7_freeBy_8 rfl ?_
      refine wl_bipush (np := 12) (v := nI 40) dX7_freeBy_10 rfl (by decide) ?_
      refine wl_icmp_ge (np := 15) (tg := 37) dX7_freeBy_12 rfl rfl (fun c_12 => ?_) (fun c_12 => ?_)
      · refine ld_a0 (np := 38) dX7_freeBy_37 rfl ?_
        refine ld_a0 (np := 39) dX7_freeBy_38 rfl ?_
        refine wl_getr (np := 42) dX7_freeBy_39 rfl fl_X7_13 rfl (by assumption) (by first | assumption | (refine (frM_R (by decide)).trans ?_; assumption)) ?_
        refine wl_putr (np := 45) dX7_freeBy_42 rfl fl_X7_16 nf_7_3 rfl (by assumption) ?_
        refine ld_a0 (np := 46) dX7_freeBy_45 rfl ?_
        refine wl_iconst (np := 47) (v := 0) dX7_freeBy_46 rfl (rfl) ?_
        refine wl_puti (np := 50) dX7_freeBy_47 rfl fl_X7_192 nf_7_19 rfl (by assumption) ?_
        refine wl_iconst (np := 51) (v := 0) dX7_freeBy_50 rfl (rfl) ?_
        refine st_i4 (np := 53) dX7_freeBy_51 rfl (by decide) rfl ?_
        refine wl_iconst (np := 54) (v := 0) dX7_freeBy_53 rfl (rfl) ?_
        refine st_i5 (np := 56) dX7_freeBy_54 rfl (by decide) rfl ?_
        rw [em]
        refine ld_i5 (np := 58) dX7_freeBy_56 rfl ?_
        refine wl_sipush (np := 61) (v := nI 360) dX7_freeBy_58 rfl (by decide) ?_
        refine wl_icmp_gt (np := 64) (tg := 243) dX7_freeBy_61 rfl rfl (fun c_61 => ?_) (fun c_61 => ?_)
        · exact absurd c_61 (by decide)
        · refine ld_i4 (np := 66) dX7_freeBy_64 rfl ?_
          refine ld_i2 (np := 67) dX7_freeBy_66 rfl ?_
          refine wl_icmp_ge (np := 70) (tg := 74) dX7_freeBy_67 rfl rfl (fun c_67 => ?_) (fun c_67 => ?_)
          · rw [nI_z, nI_leI (by omega) (by omega)] at c_67
            have ho0 : O = [] := List.eq_nil_of_length_eq_zero (by omega)
            subst ho0
            have hT : some (0, 0) = T := hT
            subst hT
            refine wl_iconst (np := 75) (v := 0) dX7_freeBy_74 rfl (rfl) ?_
            refine st_i6 (np := 77) dX7_freeBy_75 rfl (by decide) rfl ?_
            refine ld_i6 (np := 79) dX7_freeBy_77 rfl ?_
            refine wl_if_eq (np := 82) (tg := 223) dX7_freeBy_79 rfl rfl (fun c_79 => ?_) (fun c_79 => ?_)
            · refine ld_i4 (np := 225) dX7_freeBy_223 rfl ?_
              refine ld_i2 (np := 226) dX7_freeBy_225 rfl ?_
              refine wl_icmp_ne (np := 229) (tg := 232) dX7_freeBy_226 rfl rfl (fun c_226 => ?_) (fun c_226 => ?_)
              · rw [nI_z, nI_eq (by omega) (by omega)] at c_226
                omega
              · refine ld_i5 (np := 231) dX7_freeBy_229 rfl ?_
                refine wi_ret dX7_freeBy_231 rfl (rfl) (Nat.le_refl _) (Nat.le_refl _) ?_
                exact ⟨_, _, rfl, rfl, rfl⟩
            · exact absurd rfl c_79
          · rw [nI_z, nI_leI (by omega) (by omega)] at c_67
            match O, hOl, hOk, hT, key with
            | [], hOl, hOk, hT, key =>
              rw [List.length_nil] at hOl
              omega
            | c :: o2, hOl, hOk, hT, key =>
              refine wl_iconst (np := 71) (v := 1) dX7_freeBy_70 rfl (rfl) ?_
              refine wl_goto (tg := 75) dX7_freeBy_71 rfl ?_
              refine st_i6 (np := 77) dX7_freeBy_75 rfl (by decide) rfl ?_
              refine ld_i6 (np := 79) dX7_freeBy_77 rfl ?_
              refine wl_if_eq (np := 82) (tg := 223) dX7_freeBy_79 rfl rfl (fun c_79 => ?_) (fun c_79 => ?_)
              · exact absurd c_79 (by decide)
              · exact key 361 0 (by omega) (by omega) (o2.length + 1) o2 (by omega) [] c _ _ _ g 0 rfl hOk (bits_full _ hn).2 hq0 hok0 hT _ _
      · rw [nI_leI (by decide) (by omega)] at c_12
        omega
    | succ fu ih =>
      intro j g hj hg
      refine ld_i4 (np := 10) dX7_freeBy_8 rfl ?_
      refine wl_bipush (np := 12) (v := nI 40) dX7_freeBy_10 rfl (by decide) ?_
      refine wl_icmp_ge (np := 15) (tg := 37) dX7_freeBy_12 rfl rfl (fun c_12 => ?_) (fun c_12 => ?_)
      · rw [nI_leI (by decide) (by omega)] at c_12
        omega
      · refine ld_a0 (np := 16) dX7_freeBy_15 rfl ?_
        refine wl_getr (np := 19) dX7_freeBy_16 rfl fl_X7_13 rfl (by assumption) (by first | assumption | (refine (frM_R (by decide)).trans ?_; assumption)) ?_
        refine ld_i3 (np := 20) dX7_freeBy_19 rfl ?_
        refine ld_i4 (np := 22) dX7_freeBy_20 rfl ?_
        refine wl_iadd (np := 23) dX7_freeBy_22 rfl ?_
        refine ld_a0 (np := 24) dX7_freeBy_23 rfl ?_
        refine wl_getr (np := 27) dX7_freeBy_24 rfl fl_X7_46 rfl (by assumption) (by first | assumption | (refine (frM_R (by decide)).trans ?_; assumption)) ?_
        refine ld_i4 (np := 29) dX7_freeBy_27 rfl ?_
        refine wl_ialoadN (np := 30) dX7_freeBy_29 rfl (by first | (simp only [nIm, nIa, ← nI_succ]; exact rfl) | exact nI_z | exact nI_o | exact rfl) (by assumption) (by omega) (by first | decide | omega) ?_
        refine wl_iastoreN (np := 31) dX7_freeBy_30 rfl (by first | (simp only [nIm, nIa, ← nI_succ]; exact rfl) | exact nI_z | exact nI_o | exact rfl) (by assumption) (by omega) (by first | decide | omega) ?_
        refine inc_4 (np := 34) (v := _ + 1) dX7_freeBy_31 rfl rfl (by decide) rfl ?_
        refine wl_goto (tg := 8) dX7_freeBy_34 rfl ?_
        rw [uI_uA, ← nI_succ, gI_uAn (by omega)]
        refine ih (j + 1) _ (by omega) (fun i hi => ?_)
        unfold upF
        by_cases hij : i = j
        · rw [if_pos (by omega), hij]
        · rw [if_neg (by omega)]
          exact hg i (by omega)
  refine wl_bipush (np := 2) (v := nI 40) dX7_freeBy_0 rfl (by decide) ?_
  refine ld_i1 (np := 3) dX7_freeBy_2 rfl ?_
  refine wl_imul (np := 4) dX7_freeBy_3 rfl ?_
  refine st_i3 (np := 5) dX7_freeBy_4 rfl (by decide) rfl ?_
  refine wl_iconst (np := 6) (v := 0) dX7_freeBy_5 rfl (rfl) ?_
  refine st_i4 (np := 8) dX7_freeBy_6 rfl (by decide) rfl ?_
  have h := kcp 40 0 (gI me 138) (by omega) (fun i hi => absurd hi (Nat.not_lt_zero _))
  rw [uA_id] at h
  rw [nIm]
  exact h
end M22
