/-! ===== the best ring: the reference's codes ===== -/
abbrev RgC : Type := (Nat × Nat) ⊕ (Nat × Nat × Nat)
def dC (code : Nat) : RgC := if code < 25 then .inl (code / 5, code % 5) else .inr ((code - 25) / 25, (code - 25) / 5 % 5, (code - 25) % 5)
def vR (n : Nat) (x : RgC) : Bool := match x with
  | .inl (a, b) => decide (a < n ∧ b < n ∧ a < b)
  | .inr (a, b, c) => decide (a < n ∧ b < n ∧ c < n ∧ a < b ∧ ¬ b = c ∧ a < c)
def stR (ps : List Prs) (B : Bst) (x : RgC) : Bst := match x with
  | .inl (a, b) => st2 ps a b B
  | .inr (a, b, c) => st3 ps a b c B
def foC (ps : List Prs) (n : Nat) : Nat → Nat → Bst → Bst
  | 0, _, B => B
  | k + 1, code, B => foC ps n k (code + 1) (if vR n (dC code) = true then stR ps B (dC code) else B)
theorem foC_list (ps : List Prs) (n : Nat) : ∀ k code B, foC ps n k code B = (((List.range' code k).map dC).filter (vR n)).foldl (stR ps) B
  | 0, _, _ => rfl
  | k + 1, code, B => by
    show foC ps n k (code + 1) (if vR n (dC code) = true then stR ps B (dC code) else B) = _
    rw [foC_list ps n k, List.range'_succ, List.map_cons, List.filter_cons]
    by_cases h : vR n (dC code) = true
    · rw [if_pos h, if_pos h, List.foldl_cons]
    · rw [if_neg h, if_neg h]
theorem lsC_0 : (((List.range' 0 150).map dC).filter (vR 0)) = ([] : List RgC) := by decide +kernel
theorem bbC_0 {ps : List Prs} (h : ps.length = 0) : foC ps 0 150 0 (0, 0, 0, 0, 0) = bestB ps := by
  rw [foC_list, lsC_0]
  unfold bestB
  rw [h]
  rfl
theorem lsC_1 : (((List.range' 0 150).map dC).filter (vR 1)) = ([] : List RgC) := by decide +kernel
theorem bbC_1 {ps : List Prs} (h : ps.length = 1) : foC ps 1 150 0 (0, 0, 0, 0, 0) = bestB ps := by
  rw [foC_list, lsC_1]
  unfold bestB
  rw [h]
  rfl
theorem lsC_2 : (((List.range' 0 150).map dC).filter (vR 2)) = ([.inl (0, 1)] : List RgC) := by decide +kernel
theorem bbC_2 {ps : List Prs} (h : ps.length = 2) : foC ps 2 150 0 (0, 0, 0, 0, 0) = bestB ps := by
  rw [foC_list, lsC_2]
  unfold bestB
  rw [h]
  rfl
theorem lsC_3 : (((List.range' 0 150).map dC).filter (vR 3)) = ([.inl (0, 1), .inl (0, 2), .inl (1, 2), .inr (0, 1, 2), .inr (0, 2, 1)] : List RgC) := by decide +kernel
theorem bbC_3 {ps : List Prs} (h : ps.length = 3) : foC ps 3 150 0 (0, 0, 0, 0, 0) = bestB ps := by
  rw [foC_list, lsC_3]
  unfold bestB
  rw [h]
  rfl
theorem lsC_4 : (((List.range' 0 150).map dC).filter (vR 4)) = ([.inl (0, 1), .inl (0, 2), .inl (0, 3), .inl (1, 2), .inl (1, 3), .inl (2, 3), .inr (0, 1, 2), .inr (0, 1, 3), .inr (0, 2, 1), .inr (0, 2, 3), .inr (0, 3, 1), .inr (0, 3, 2), .inr (1, 2, 3), .inr (1, 3, 2)] : List RgC) := by decide +kernel
theorem bbC_4 {ps : List Prs} (h : ps.length = 4) : foC ps 4 150 0 (0, 0, 0, 0, 0) = bestB ps := by
  rw [foC_list, lsC_4]
  unfold bestB
  rw [h]
  rfl
theorem lsC_5 : (((List.range' 0 150).map dC).filter (vR 5)) = ([.inl (0, 1), .inl (0, 2), .inl (0, 3), .inl (0, 4), .inl (1, 2), .inl (1, 3), .inl (1, 4), .inl (2, 3), .inl (2, 4), .inl (3, 4), .inr (0, 1, 2), .inr (0, 1, 3), .inr (0, 1, 4), .inr (0, 2, 1), .inr (0, 2, 3), .inr (0, 2, 4), .inr (0, 3, 1), .inr (0, 3, 2), .inr (0, 3, 4), .inr (0, 4, 1), .inr (0, 4, 2), .inr (0, 4, 3), .inr (1, 2, 3), .inr (1, 2, 4), .inr (1, 3, 2), .inr (1, 3, 4), .inr (1, 4, 2), .inr (1, 4, 3), .inr (2, 3, 4), .inr (2, 4, 3)] : List RgC) := by decide +kernel
theorem bbC_5 {ps : List Prs} (h : ps.length = 5) : foC ps 5 150 0 (0, 0, 0, 0, 0) = bestB ps := by
  rw [foC_list, lsC_5]
  unfold bestB
  rw [h]
  simp only [ou3, mi3, in3, ou2, in2, List.foldl_cons, List.foldl_nil, stR, Nat.reduceAdd, Nat.reduceEqDiff, reduceIte, Nat.reduceSub]
theorem foC_eq {ps : List Prs} (h : ps.length ≤ 5) : foC ps ps.length 150 0 (0, 0, 0, 0, 0) = bestB ps := by
  have h6 : ps.length = 0 ∨ ps.length = 1 ∨ ps.length = 2 ∨ ps.length = 3 ∨ ps.length = 4 ∨ ps.length = 5 := by omega
  rcases h6 with q | q | q | q | q | q
  · rw [q]; exact bbC_0 q
  · rw [q]; exact bbC_1 q
  · rw [q]; exact bbC_2 q
  · rw [q]; exact bbC_3 q
  · rw [q]; exact bbC_4 q
  · rw [q]; exact bbC_5 q
theorem ringA0 {B : Bst} (h : B.2.1 = 0) {i : Int32} (hi : i = -1 ∨ i = 0 ∨ i = 1 ∨ i = 2) : ringA B i = -4 := by
  unfold ringA
  rw [h]
  rcases hi with rfl | rfl | rfl | rfl <;> rfl
theorem ringA2 {B : Bst} {a b c : Int32} (h : B.2 = (2, a, b, c)) : ringA B (-1) = B.1 ∧ ringA B 0 = a ∧ ringA B 1 = b ∧ ringA B 2 = -4 := by
  obtain ⟨b1, b2⟩ := B
  dsimp only at h
  subst h
  exact ⟨rfl, rfl, rfl, rfl⟩
theorem ringA3 {B : Bst} {a b c : Int32} (h : B.2 = (3, a, b, c)) : ringA B (-1) = B.1 ∧ ringA B 0 = a ∧ ringA B 1 = b ∧ ringA B 2 = c := by
  obtain ⟨b1, b2⟩ := B
  dsimp only at h
  subst h
  exact ⟨rfl, rfl, rfl, rfl⟩
theorem i4 {i : Int32} (h : inR i (-1) 2) : i = -1 ∨ i = 0 ∨ i = 1 ∨ i = 2 := by
  have h1 := Int32.le_iff_toInt_le.mp h.1
  have h2 := Int32.le_iff_toInt_le.mp h.2
  have e1 : (-1 : Int32).toInt = -1 := rfl
  have e2 : (2 : Int32).toInt = 2 := rfl
  have : i.toInt = -1 ∨ i.toInt = 0 ∨ i.toInt = 1 ∨ i.toInt = 2 := by omega
  rcases this with q | q | q | q
  · exact Or.inl (Int32.toInt_inj.mp (q.trans rfl))
  · exact Or.inr (Or.inl (Int32.toInt_inj.mp (q.trans rfl)))
  · exact Or.inr (Or.inr (Or.inl (Int32.toInt_inj.mp (q.trans rfl))))
  · exact Or.inr (Or.inr (Or.inr (Int32.toInt_inj.mp (q.trans rfl))))
theorem gain0 {P Q : Prs} (h : P.2.1.length = 0 ∨ Q.2.1.length = 0) : ¬ 0 < gainS P Q := by
  unfold gainS
  rw [if_pos h]
  decide
theorem sav2_0 {P Q : Prs} (h : P.2.1.length = 0 ∨ Q.2.1.length = 0) : sav2 P Q = 0 := by
  unfold sav2
  rw [if_neg (fun q => gain0 h q.1)]
theorem sav3_0 {P Q R : Prs} (h : P.2.1.length = 0 ∨ Q.2.1.length = 0 ∨ R.2.1.length = 0) : sav3 P Q R = 0 := by
  unfold sav3
  rw [if_neg]
  intro q
  rcases h with h | h | h
  · exact gain0 (Or.inl h) q.1
  · exact gain0 (Or.inl h) q.2.1
  · exact gain0 (Or.inr h) q.1
/-- the reference's best, and the class's -/
def rlB (B : Bst) (best : Int32) : Prop := ¬ B.1 < 0 ∧ ((best = -4 ∧ B.2.1 = 0) ∨ ∃ code, code < 150 ∧ best = nI code ∧ ((code < 25 ∧ B.2 = (2, nI (code / 5), nI (code % 5), -1)) ∨ (25 ≤ code ∧ B.2 = (3, nI ((code - 25) / 25), nI ((code - 25) / 5 % 5), nI ((code - 25) % 5)))))
section M17
variable {sh : List Shp} {me : Mem} {d kk : Nat} {S : St}
set_option maxHeartbeats 4000000 in
set_option maxRecDepth 100000 in
theorem c_M_rings (i : Int32) (hF : FixM sh me) (hR : RepM me S) (hlen : lenW S.1) (hd : 3 ≤ d) : CI d mX7_rings sh [.ref 136, .int i] me (fun x m => x = (sp_rings S i).1 ∧ GoodM sh me m (sp_rings S i).2) := by
  have hFs := hF
  obtain ⟨z0, ⟨x1, x2, x4, x5, x6, x10, x11, x12, x16, x17, x18, x21, x22, x24, x25, x26, x27⟩, ⟨g1, g2, g4, g5, g6, g10, g11, g12, g16, g17, g18, g21, g22, g24, g25, g26, g27⟩, gs⟩ := hF
  obtain ⟨v1, v2, v3, v4, v5, v6, v7, v8, v9, v10, v11, v12⟩ := id hR.1
  have hn5 := v1.1
  refine CI.mk (L := [.ref 136, .int i, .float 0, .float 0, .float 0, .float 0, .float 0, .float 0, .float 0, .float 0]) (by decide) (Nat.le_of_ble_eq_true rfl) rfl ?_
  refine ld_i1 (np := 1) dX7_rings_0 rfl ?_
  refine wl_i2l (np := 2) dX7_rings_1 rfl ?_
  refine wl_ldc2 (np := 5) dX7_rings_2 rfl wk_X7_190 ?_
  refine wl_ldc2 (np := 8) dX7_rings_5 rfl wk_X7_106 ?_
  refine ciS_3 (np := 11) dX7_rings_8 rfl lk_X7_68 (Nat.le_of_ble_eq_true rfl) (by omega) (Nat.le_refl _) (Nat.le_refl _) (c_in32 _ (-1) 2 (by decide) (by decide)) (fun x_8 m_8 h_8 => ?_)
  obtain ⟨rfl, q_8⟩ := h_8
  have q_8 := q_8.symm
  subst q_8
  refine wl_if_ne (np := 14) (tg := 16) dX7_rings_11 rfl rfl (fun c_11 => ?_) (fun c_11 => ?_)
  · have hin := if1 c_11
    unfold sp_rings
    rw [cif_t hin]
    have kend : ∀ B best, B = bestB S.1.1 → rlB B best → ∀ w4 w5 w6 w7 w8 w9, Wa mX7_rings (0, fun _ => 0) d 0 0 sh.length (PI sh (fun x m => x = ringA (bestB S.1.1) i ∧ GoodM sh me m S)) 276 [.ref 136, .int i, .int B.1, .int best, w4, w5, w6, w7, w8, w9] [] sh me 0 0 := by
      intro B best hB hrl w4 w5 w6 w7 w8 w9
      rw [← hB]
      rcases hrl with ⟨hb0, ⟨rfl, hz⟩ | ⟨code, hc, rfl, ⟨hlt, he⟩ | ⟨hge, he⟩⟩⟩
      · refine ld_i3 (np := 277) dX7_rings_276 rfl ?_
        refine wl_if_ge (np := 280) (tg := 283) dX7_rings_277 rfl rfl (fun c_277 => ?_) (fun c_277 => ?_)
        · exact absurd c_277 (by decide)
        · refine wl_bipush (np := 282) (v := -4) dX7_rings_280 rfl (by decide) ?_
          refine wi_ret dX7_rings_282 rfl (rfl) (Nat.le_refl _) (Nat.le_refl _) ?_
          exact ⟨(ringA0 hz (i4 hin)).symm, GoodM.same hFs hR⟩
      · obtain ⟨r1, r2, r3, r4⟩ := ringA2 he
        refine ld_i3 (np := 277) dX7_rings_276 rfl ?_
        refine wl_if_ge (np := 280) (tg := 283) dX7_rings_277 rfl rfl (fun c_277 => ?_) (fun c_277 => ?_)
        · refine ld_i1 (np := 284) dX7_rings_283 rfl ?_
          refine wl_iconst (np := 285) (v := -1) dX7_rings_284 rfl (rfl) ?_
          refine wl_icmp_ne (np := 288) (tg := 290) dX7_rings_285 rfl rfl (fun c_285 => ?_) (fun c_285 => ?_)
          · refine ld_i3 (np := 291) dX7_rings_290 rfl ?_
            refine wl_bipush (np := 293) (v := nI 25) dX7_rings_291 rfl (by decide) ?_
            refine wl_icmp_ge (np := 296) (tg := 300) dX7_rings_293 rfl rfl (fun c_293 => ?_) (fun c_293 => ?_)
            · rw [nI_leI (by decide) (by omega)] at c_293
              omega
            · refine ld_i3 (np := 297) dX7_rings_296 rfl ?_
              refine wl_goto (tg := 304) dX7_rings_297 rfl ?_
              refine st_i4 (np := 306) dX7_rings_304 rfl (by decide) rfl ?_
              refine ld_i3 (np := 307) dX7_rings_306 rfl ?_
              refine wl_bipush (np := 309) (v := nI 25) dX7_rings_307 rfl (by decide) ?_
              refine wl_icmp_ge (np := 312) (tg := 340) dX7_rings_309 rfl rfl (fun c_309 => ?_) (fun c_309 => ?_)
              · rw [nI_leI (by decide) (by omega)] at c_309
                omega
              · refine ld_i1 (np := 313) dX7_rings_312 rfl ?_
                refine wl_if_ne (np := 316) (tg := 323) dX7_rings_313 rfl rfl (fun c_313 => ?_) (fun c_313 => ?_)
                · refine ld_i1 (np := 324) dX7_rings_323 rfl ?_
                  refine wl_iconst (np := 325) (v := 1) dX7_rings_324 rfl (rfl) ?_
                  refine wl_icmp_ne (np := 328) (tg := 335) dX7_rings_325 rfl rfl (fun c_325 => ?_) (fun c_325 => ?_)
                  · refine wl_bipush (np := 337) (v := -4) dX7_rings_335 rfl (by decide) ?_
                    refine wl_goto (tg := 370) dX7_rings_337 rfl ?_
                    refine wi_ret dX7_rings_370 rfl (rfl) (Nat.le_refl _) (Nat.le_refl _) ?_
                    refine ⟨?_, GoodM.same hFs hR⟩
                    rcases i4 hin with q | q | q | q
                    · exact absurd q c_285
                    · exact absurd q c_313
                    · exact absurd q c_325
                    · rw [q, r4]
                  · refine ld_i4 (np := 330) dX7_rings_328 rfl ?_
                    refine wl_iconst (np := 331) (v := nI 5) dX7_rings_330 rfl (rfl) ?_
                    refine wl_irem (np := 332) dX7_rings_331 rfl (by decide) ?_
                    refine wl_goto (tg := 370) dX7_rings_332 rfl ?_
                    refine wi_ret dX7_rings_370 rfl (rfl) (Nat.le_refl _) (Nat.le_refl _) ?_
                    refine ⟨?_, GoodM.same hFs hR⟩
                    rw [c_325, r3]
                    exact pk_rem (by omega) (by decide) (by decide)
                · refine ld_i4 (np := 318) dX7_rings_316 rfl ?_
                  refine wl_iconst (np := 319) (v := nI 5) dX7_rings_318 rfl (rfl) ?_
                  refine wl_idiv (np := 320) dX7_rings_319 rfl (by decide) ?_
                  refine wl_goto (tg := 370) dX7_rings_320 rfl ?_
                  refine wi_ret dX7_rings_370 rfl (rfl) (Nat.le_refl _) (Nat.le_refl _) ?_
                  refine ⟨?_, GoodM.same hFs hR⟩
                  rw [c_313, r2]
                  exact pk_div (by omega) (by decide) (by decide)
          · refine ld_i2 (np := 289) dX7_rings_288 rfl ?_
            refine wi_ret dX7_rings_289 rfl (rfl) (Nat.le_refl _) (Nat.le_refl _) ?_
            exact ⟨by rw [c_285, r1], GoodM.same hFs hR⟩
        · exact absurd (nI_pos' (by omega)) c_277
      · obtain ⟨r1, r2, r3, r4⟩ := ringA3 he
        have es : nI code - nI 25 = nI (code - 25) := nI_subI hge
        refine ld_i3 (np := 277) dX7_rings_276 rfl ?_
        refine wl_if_ge (np := 280) (tg := 283) dX7_rings_277 rfl rfl (fun c_277 => ?_) (fun c_277 => ?_)
        · refine ld_i1 (np := 284) dX7_rings_283 rfl ?_
          refine wl_iconst (np := 285) (v := -1) dX7_rings_284 rfl (rfl) ?_
          refine wl_icmp_ne (np := 288) (tg := 290) dX7_rings_285 rfl rfl (fun c_285 => ?_) (fun c_285 => ?_)
          · refine ld_i3 (np := 291) dX7_rings_290 rfl ?_
            refine wl_bipush (np := 293) (v := nI 25) dX7_rings_291 rfl (by decide) ?_
            refine wl_icmp_ge (np := 296) (tg := 300) dX7_rings_293 rfl rfl (fun c_293 => ?_) (fun c_293 => ?_)
            · refine ld_i3 (np := 301) dX7_rings_300 rfl ?_
              refine wl_bipush (np := 303) (v := nI 25) dX7_rings_301 rfl (by decide) ?_
              refine wl_isub (np := 304) dX7_rings_303 rfl ?_
              refine st_i4 (np := 306) dX7_rings_304 rfl (by decide) rfl ?_
              refine ld_i3 (np := 307) dX7_rings_306 rfl ?_
              refine wl_bipush (np := 309) (v := nI 25) dX7_rings_307 rfl (by decide) ?_
              refine wl_icmp_ge (np := 312) (tg := 340) dX7_rings_309 rfl rfl (fun c_309 => ?_) (fun c_309 => ?_)
              · refine ld_i1 (np := 341) dX7_rings_340 rfl ?_
                refine wl_if_ne (np := 344) (tg := 352) dX7_rings_341 rfl rfl (fun c_341 => ?_) (fun c_341 => ?_)
                · refine ld_i1 (np := 353) dX7_rings_352 rfl ?_
                  refine wl_iconst (np := 354) (v := 1) dX7_rings_353 rfl (rfl) ?_
                  refine wl_icmp_ne (np := 357) (tg := 366) dX7_rings_354 rfl rfl (fun c_354 => ?_) (fun c_354 => ?_)
                  · refine ld_i4 (np := 368) dX7_rings_366 rfl ?_
                    refine wl_iconst (np := 369) (v := nI 5) dX7_rings_368 rfl (rfl) ?_
                    refine wl_irem (np := 370) dX7_rings_369 rfl (by decide) ?_
                    refine wi_ret dX7_rings_370 rfl (rfl) (Nat.le_refl _) (Nat.le_refl _) ?_
                    refine ⟨?_, GoodM.same hFs hR⟩
                    rcases i4 hin with q | q | q | q
                    · exact absurd q c_285
                    · exact absurd q c_341
                    · exact absurd q c_354
                    · rw [q, r4, es]
                      exact pk_rem (by omega) (by decide) (by decide)
                  · refine ld_i4 (np := 359) dX7_rings_357 rfl ?_
                    refine wl_iconst (np := 360) (v := nI 5) dX7_rings_359 rfl (rfl) ?_
                    refine wl_idiv (np := 361) dX7_rings_360 rfl (by decide) ?_
                    refine wl_iconst (np := 362) (v := nI 5) dX7_rings_361 rfl (rfl) ?_
                    refine wl_irem (np := 363) dX7_rings_362 rfl (by decide) ?_
                    refine wl_goto (tg := 370) dX7_rings_363 rfl ?_
                    refine wi_ret dX7_rings_370 rfl (rfl) (Nat.le_refl _) (Nat.le_refl _) ?_
                    refine ⟨?_, GoodM.same hFs hR⟩
                    rw [c_354, r3, es, pk_div (by omega) (by decide) (by decide)]
                    exact pk_rem (by omega) (by decide) (by decide)
                · refine ld_i4 (np := 346) dX7_rings_344 rfl ?_
                  refine wl_bipush (np := 348) (v := nI 25) dX7_rings_346 rfl (by decide) ?_
                  refine wl_idiv (np := 349) dX7_rings_348 rfl (by decide) ?_
                  refine wl_goto (tg := 370) dX7_rings_349 rfl ?_
                  refine wi_ret dX7_rings_370 rfl (rfl) (Nat.le_refl _) (Nat.le_refl _) ?_
                  refine ⟨?_, GoodM.same hFs hR⟩
                  rw [c_341, r2, es]
                  exact pk_div (by omega) (by decide) (by decide)
              · rw [nI_leI (by decide) (by omega)] at c_309
                omega
            · rw [nI_leI (by decide) (by omega)] at c_293
              omega
          · refine ld_i2 (np := 289) dX7_rings_288 rfl ?_
            refine wi_ret dX7_rings_289 rfl (rfl) (Nat.le_refl _) (Nat.le_refl _) ?_
            exact ⟨by rw [c_285, r1], GoodM.same hFs hR⟩
        · exact absurd (nI_pos' (by omega)) c_277
    have key : ∀ fuel code best B, code + fuel = 150 → foC S.1.1 S.1.1.length fuel code B = bestB S.1.1 → rlB B best → ∀ w5 w6 w7 w8 w9, Wa mX7_rings (0, fun _ => 0) d 0 0 sh.length (PI sh (fun x m => x = ringA (bestB S.1.1) i ∧ GoodM sh me m S)) 24 [.ref 136, .int i, .int B.1, .int best, .int (nI code), w5, w6, w7, w8, w9] [] sh me 0 0 := by
      intro fuel
      induction fuel with
      | zero =>
        intro code best B hcf hfo hrl w5 w6 w7 w8 w9
        refine ld_i4 (np := 26) dX7_rings_24 rfl ?_
        refine wl_sipush (np := 29) (v := nI 150) dX7_rings_26 rfl (by decide) ?_
        refine wl_icmp_ge (np := 32) (tg := 276) dX7_rings_29 rfl rfl (fun c_29 => ?_) (fun c_29 => ?_)
        · exact kend B best hfo hrl _ _ _ _ _ _
        · rw [nI_leI (by decide) (by omega)] at c_29
          omega
      | succ fuel ih =>
        intro code best B hcf hfo hrl w5 w6 w7 w8 w9
        have hfo : foC S.1.1 S.1.1.length fuel (code + 1) (if vR S.1.1.length (dC code) = true then stR S.1.1 B (dC code) else B) = bestB S.1.1 := hfo
        have k242 : ∀ (own : Int32) (tl : Int32 × Int32 × Int32 × Int32), foC S.1.1 S.1.1.length fuel (code + 1) (if B.1 < own then (own, tl) else B) = bestB S.1.1 → (B.1 < own → rlB (own, tl) (nI code)) → ∀ w5 w6 w7 w8 w9, w8.category = 1 → Wa mX7_rings (0, fun _ => 0) d 0 0 sh.length (PI sh (fun x m => x = ringA (bestB S.1.1) i ∧ GoodM sh me m S)) 242 [.ref 136, .int i, .int B.1, .int best, .int (nI code), w5, w6, w7, w8, w9] [.int own] sh me 0 0 := by
          intro own tl hown hrl2 w5 w6 w7 w8 w9 hw8
          refine st_i9 (np := 244) dX7_rings_242 rfl (by decide) hw8 ?_
          refine ld_i9 (np := 246) dX7_rings_244 rfl ?_
          refine ld_i2 (np := 247) dX7_rings_246 rfl ?_
          refine wl_icmp_le (np := 250) (tg := 255) dX7_rings_247 rfl rfl (fun c_247 => ?_) (fun c_247 => ?_)
          · rw [if_neg (Int32.not_lt.mpr c_247)] at hown
            refine ld_i3 (np := 256) dX7_rings_255 rfl ?_
            refine st_i3 (np := 257) dX7_rings_256 rfl (by decide) rfl ?_
            refine ld_i9 (np := 259) dX7_rings_257 rfl ?_
            refine ld_i2 (np := 260) dX7_rings_259 rfl ?_
            refine wl_icmp_le (np := 263) (tg := 268) dX7_rings_260 rfl rfl (fun c_260 => ?_) (fun c_260 => ?_)
            · refine ld_i2 (np := 269) dX7_rings_268 rfl ?_
              refine st_i2 (np := 270) dX7_rings_269 rfl (by decide) rfl ?_
              refine inc_4 (np := 273) (v := _ + 1) dX7_rings_270 rfl rfl (by decide) rfl ?_
              refine wl_goto (tg := 24) dX7_rings_273 rfl ?_
              rw [← nI_succ]
              exact ih (code + 1) best B (by omega) hown hrl _ _ _ _ _
            · exact absurd c_247 c_260
          · rw [if_pos (Int32.not_le.mp c_247)] at hown
            refine ld_i4 (np := 252) dX7_rings_250 rfl ?_
            refine wl_goto (tg := 256) dX7_rings_252 rfl ?_
            refine st_i3 (np := 257) dX7_rings_256 rfl (by decide) rfl ?_
            refine ld_i9 (np := 259) dX7_rings_257 rfl ?_
            refine ld_i2 (np := 260) dX7_rings_259 rfl ?_
            refine wl_icmp_le (np := 263) (tg := 268) dX7_rings_260 rfl rfl (fun c_260 => ?_) (fun c_260 => ?_)
            · exact absurd c_260 c_247
            · refine ld_i9 (np := 265) dX7_rings_263 rfl ?_
              refine wl_goto (tg := 269) dX7_rings_265 rfl ?_
              refine st_i2 (np := 270) dX7_rings_269 rfl (by decide) rfl ?_
              refine inc_4 (np := 273) (v := _ + 1) dX7_rings_270 rfl rfl (by decide) rfl ?_
              refine wl_goto (tg := 24) dX7_rings_273 rfl ?_
              rw [← nI_succ]
              exact ih (code + 1) (nI code) (own, tl) (by omega) hown (hrl2 (Int32.not_le.mp c_247)) _ _ _ _ _
        have k220 : foC S.1.1 S.1.1.length fuel (code + 1) B = bestB S.1.1 → ∀ w5 w6 (w7 : Int32) w8 w9, Wa mX7_rings (0, fun _ => 0) d 0 0 sh.length (PI sh (fun x m => x = ringA (bestB S.1.1) i ∧ GoodM sh me m S)) 220 [.ref 136, .int i, .int B.1, .int best, .int (nI code), w5, w6, .int w7, w8, w9] [] sh me 0 0 := by
          intro hB w5 w6 w7 w8 w9
          refine wl_iconst (np := 221) (v := 0) dX7_rings_220 rfl (rfl) ?_
          refine st_i8 (np := 223) dX7_rings_221 rfl (by decide) rfl ?_
          refine ld_i8 (np := 225) dX7_rings_223 rfl ?_
          refine wl_if_eq (np := 228) (tg := 241) dX7_rings_225 rfl rfl (fun c_225 => ?_) (fun c_225 => ?_)
          · refine wl_iconst (np := 242) (v := 0) dX7_rings_241 rfl (rfl) ?_
            exact k242 0 (0, 0, 0, 0) (by rw [if_neg hrl.1]; exact hB) (fun q => absurd q hrl.1) _ _ _ _ _ rfl
          · exact absurd rfl c_225
        have k158 : foC S.1.1 S.1.1.length fuel (code + 1) B = bestB S.1.1 → ∀ w5 w6 (w7 : Int32) w8 w9, Wa mX7_rings (0, fun _ => 0) d 0 0 sh.length (PI sh (fun x m => x = ringA (bestB S.1.1) i ∧ GoodM sh me m S)) 158 [.ref 136, .int i, .int B.1, .int best, .int (nI code), w5, w6, .int w7, w8, w9] [] sh me 0 0 := by
          intro hB w5 w6 w7 w8 w9
          refine wl_iconst (np := 159) (v := 0) dX7_rings_158 rfl (rfl) ?_
          refine st_i8 (np := 161) dX7_rings_159 rfl (by decide) rfl ?_
          refine ld_i8 (np := 163) dX7_rings_161 rfl ?_
          refine wl_if_eq (np := 166) (tg := 220) dX7_rings_163 rfl rfl (fun c_163 => ?_) (fun c_163 => ?_)
          · exact k220 hB _ _ _ _ _
          · exact absurd rfl c_163
        refine ld_i4 (np := 26) dX7_rings_24 rfl ?_
        refine wl_sipush (np := 29) (v := nI 150) dX7_rings_26 rfl (by decide) ?_
        refine wl_icmp_ge (np := 32) (tg := 276) dX7_rings_29 rfl rfl (fun c_29 => ?_) (fun c_29 => ?_)
        · rw [nI_leI (by decide) (by omega)] at c_29
          omega
        · refine ld_i4 (np := 34) dX7_rings_32 rfl ?_
          refine wl_bipush (np := 36) (v := nI 25) dX7_rings_34 rfl (by decide) ?_
          refine wl_icmp_ge (np := 39) (tg := 46) dX7_rings_36 rfl rfl (fun c_36 => ?_) (fun c_36 => ?_)
          · rw [nI_leI (by decide) (by omega)] at c_36
            have es : nI code - nI 25 = nI (code - 25) := nI_subI c_36
            have ea : nI (code - 25) / nI 25 = nI ((code - 25) / 25) := pk_div (by omega) (by decide) (by decide)
            have eb0 : nI (code - 25) / nI 5 = nI ((code - 25) / 5) := pk_div (by omega) (by decide) (by decide)
            have eb : nI ((code - 25) / 5) - nI ((code - 25) / 5) / nI 5 * nI 5 = nI ((code - 25) / 5 % 5) := pk_rem (by omega) (by decide) (by decide)
            have ec : nI (code - 25) - nI (code - 25) / nI 5 * nI 5 = nI ((code - 25) % 5) := pk_rem (by omega) (by decide) (by decide)
            have hdc : dC code = .inr ((code - 25) / 25, (code - 25) / 5 % 5, (code - 25) % 5) := by unfold dC; rw [if_neg (by omega)]
            refine ld_i4 (np := 48) dX7_rings_46 rfl ?_
            refine wl_bipush (np := 50) (v := nI 25) dX7_rings_48 rfl (by decide) ?_
            refine wl_isub (np := 51) dX7_rings_50 rfl ?_
            refine wl_bipush (np := 53) (v := nI 25) dX7_rings_51 rfl (by decide) ?_
            refine wl_idiv (np := 54) dX7_rings_53 rfl (by decide) ?_
            refine st_i5 (np := 56) dX7_rings_54 rfl (by decide) rfl ?_
            refine ld_i4 (np := 58) dX7_rings_56 rfl ?_
            refine wl_bipush (np := 60) (v := nI 25) dX7_rings_58 rfl (by decide) ?_
            refine wl_icmp_ge (np := 63) (tg := 70) dX7_rings_60 rfl rfl (fun c_60 => ?_) (fun c_60 => ?_)
            · refine ld_i4 (np := 72) dX7_rings_70 rfl ?_
              refine wl_bipush (np := 74) (v := nI 25) dX7_rings_72 rfl (by decide) ?_
              refine wl_isub (np := 75) dX7_rings_74 rfl ?_
              refine wl_iconst (np := 76) (v := nI 5) dX7_rings_75 rfl (rfl) ?_
              refine wl_idiv (np := 77) dX7_rings_76 rfl (by decide) ?_
              refine wl_iconst (np := 78) (v := nI 5) dX7_rings_77 rfl (rfl) ?_
              refine wl_irem (np := 79) dX7_rings_78 rfl (by decide) ?_
              refine st_i6 (np := 81) dX7_rings_79 rfl (by decide) rfl ?_
              refine ld_i4 (np := 83) dX7_rings_81 rfl ?_
              refine wl_bipush (np := 85) (v := nI 25) dX7_rings_83 rfl (by decide) ?_
              refine wl_icmp_ge (np := 88) (tg := 92) dX7_rings_85 rfl rfl (fun c_85 => ?_) (fun c_85 => ?_)
              · refine ld_i4 (np := 94) dX7_rings_92 rfl ?_
                refine wl_bipush (np := 96) (v := nI 25) dX7_rings_94 rfl (by decide) ?_
                refine wl_isub (np := 97) dX7_rings_96 rfl ?_
                refine wl_iconst (np := 98) (v := nI 5) dX7_rings_97 rfl (rfl) ?_
                refine wl_irem (np := 99) dX7_rings_98 rfl (by decide) ?_
                refine st_i7 (np := 101) dX7_rings_99 rfl (by decide) rfl ?_
                rw [es, ec, ea, eb0, eb]
                rw [hdc] at hfo
                have hrl2 : ∀ own, B.1 < own → rlB (own, 3, nI ((code - 25) / 25), nI ((code - 25) / 5 % 5), nI ((code - 25) % 5)) (nI code) := fun own hown => ⟨fun q => hrl.1 (Int32.lt_trans hown q), Or.inr ⟨code, by omega, rfl, Or.inr ⟨c_36, rfl⟩⟩⟩
                have hfo : foC S.1.1 S.1.1.length fuel (code + 1) (if decide ((code - 25) / 25 < S.1.1.length ∧ (code - 25) / 5 % 5 < S.1.1.length ∧ (code - 25) % 5 < S.1.1.length ∧ (code - 25) / 25 < (code - 25) / 5 % 5 ∧ ¬ (code - 25) / 5 % 5 = (code - 25) % 5 ∧ (code - 25) / 25 < (code - 25) % 5) = true then st3 S.1.1 ((code - 25) / 25) ((code - 25) / 5 % 5) ((code - 25) % 5) B else B) = bestB S.1.1 := hfo
                have hba : (code - 25) / 25 < 5 := by omega
                have hbb : (code - 25) / 5 % 5 < 5 := by omega
                have hbc : (code - 25) % 5 < 5 := by omega
                generalize (code - 25) / 25 = a at *
                generalize (code - 25) / 5 % 5 = b at *
                generalize (code - 25) % 5 = c at *
                simp only [decide_eq_true_eq] at hfo
                refine ld_i5 (np := 103) dX7_rings_101 rfl ?_
                refine ld_a0 (np := 104) dX7_rings_103 rfl ?_
                refine wl_geti (np := 107) dX7_rings_104 rfl fl_X7_64 (by decide) (by assumption) ?_
                refine wl_icmp_ge (np := 110) (tg := 158) dX7_rings_107 rfl rfl (fun c_107 => ?_) (fun c_107 => ?_)
                · rw [v3, nI_leI (by omega) (by omega)] at c_107
                  rw [if_neg (fun q => by omega)] at hfo
                  exact k158 hfo _ _ _ _ _
                · rw [v3, nI_leI (by omega) (by omega)] at c_107
                  refine ld_i6 (np := 112) dX7_rings_110 rfl ?_
                  refine ld_a0 (np := 113) dX7_rings_112 rfl ?_
                  refine wl_geti (np := 116) dX7_rings_113 rfl fl_X7_64 (by decide) (by assumption) ?_
                  refine wl_icmp_ge (np := 119) (tg := 158) dX7_rings_116 rfl rfl (fun c_116 => ?_) (fun c_116 => ?_)
                  · rw [v3, nI_leI (by omega) (by omega)] at c_116
                    rw [if_neg (fun q => by omega)] at hfo
                    exact k158 hfo _ _ _ _ _
                  · rw [v3, nI_leI (by omega) (by omega)] at c_116
                    refine ld_i7 (np := 121) dX7_rings_119 rfl ?_
                    refine ld_a0 (np := 122) dX7_rings_121 rfl ?_
                    refine wl_geti (np := 125) dX7_rings_122 rfl fl_X7_64 (by decide) (by assumption) ?_
                    refine wl_icmp_ge (np := 128) (tg := 158) dX7_rings_125 rfl rfl (fun c_125 => ?_) (fun c_125 => ?_)
                    · rw [v3, nI_leI (by omega) (by omega)] at c_125
                      rw [if_neg (fun q => by omega)] at hfo
                      exact k158 hfo _ _ _ _ _
                    · rw [v3, nI_leI (by omega) (by omega)] at c_125
                      refine ld_i5 (np := 130) dX7_rings_128 rfl ?_
                      refine ld_i6 (np := 132) dX7_rings_130 rfl ?_
                      refine wl_icmp_ge (np := 135) (tg := 158) dX7_rings_132 rfl rfl (fun c_132 => ?_) (fun c_132 => ?_)
                      · rw [nI_leI (by omega) (by omega)] at c_132
                        rw [if_neg (fun q => by omega)] at hfo
                        exact k158 hfo _ _ _ _ _
                      · rw [nI_leI (by omega) (by omega)] at c_132
                        refine ld_i6 (np := 137) dX7_rings_135 rfl ?_
                        refine ld_i7 (np := 139) dX7_rings_137 rfl ?_
                        refine wl_icmp_eq (np := 142) (tg := 158) dX7_rings_139 rfl rfl (fun c_139 => ?_) (fun c_139 => ?_)
                        · rw [nI_eq (by omega) (by omega)] at c_139
                          rw [if_neg (fun q => by omega)] at hfo
                          exact k158 hfo _ _ _ _ _
                        · rw [nI_eq (by omega) (by omega)] at c_139
                          refine ld_i7 (np := 144) dX7_rings_142 rfl ?_
                          refine wl_if_lt (np := 147) (tg := 154) dX7_rings_144 rfl rfl (fun c_144 => ?_) (fun c_144 => ?_)
                          · exact absurd c_144 (nI_pos (by omega))
                          · refine ld_i5 (np := 149) dX7_rings_147 rfl ?_
                            refine ld_i7 (np := 151) dX7_rings_149 rfl ?_
                            refine wl_icmp_ge (np := 154) (tg := 158) dX7_rings_151 rfl rfl (fun c_151 => ?_) (fun c_151 => ?_)
                            · rw [nI_leI (by omega) (by omega)] at c_151
                              rw [if_neg (fun q => by omega)] at hfo
                              exact k158 hfo _ _ _ _ _
                            · rw [nI_leI (by omega) (by omega)] at c_151
                              rw [if_pos ⟨by omega, by omega, by omega, by omega, c_139, by omega⟩] at hfo
                              obtain ⟨P, hP⟩ : ∃ P, S.1.1[a]? = some P := ⟨_, List.getElem?_eq_getElem (by omega)⟩
                              obtain ⟨P2, hP2⟩ : ∃ P, S.1.1[b]? = some P := ⟨_, List.getElem?_eq_getElem (by omega)⟩
                              obtain ⟨P3, hP3⟩ : ∃ P, S.1.1[c]? = some P := ⟨_, List.getElem?_eq_getElem (by omega)⟩
                              have hq1 := v1.2 a P hP
                              have hq2 := v1.2 b P2 hP2
                              have hq3 := v1.2 c P3 hP3
                              have l1 := hq1.2.2.2.2.1
                              have l2 := hq2.2.2.2.2.1
                              have l3 := hq3.2.2.2.2.1
                              have hst : st3 S.1.1 a b c B = if B.1 < sav3 P P2 P3 then (sav3 P P2 P3, 3, nI a, nI b, nI c) else B := by unfold st3; rw [hP, hP2, hP3]; rfl
                              rw [hst] at hfo
                              have hno : (P.2.1.length = 0 ∨ P2.2.1.length = 0 ∨ P3.2.1.length = 0) → foC S.1.1 S.1.1.length fuel (code + 1) B = bestB S.1.1 := fun q => by
                                rw [sav3_0 q, if_neg hrl.1] at hfo
                                exact hfo
                              refine wl_iconst (np := 155) (v := 1) dX7_rings_154 rfl (rfl) ?_
                              refine wl_goto (tg := 159) dX7_rings_155 rfl ?_
                              refine st_i8 (np := 161) dX7_rings_159 rfl (by decide) rfl ?_
                              refine ld_i8 (np := 163) dX7_rings_161 rfl ?_
                              refine wl_if_eq (np := 166) (tg := 220) dX7_rings_163 rfl rfl (fun c_163 => ?_) (fun c_163 => ?_)
                              · exact absurd c_163 (by decide)
                              · refine ld_a0 (np := 167) dX7_rings_166 rfl ?_
                                refine wl_getr (np := 170) dX7_rings_167 rfl fl_X7_7 rfl (by assumption) (by assumption) ?_
                                refine wl_bipush (np := 172) (v := nI 40) dX7_rings_170 rfl (by decide) ?_
                                refine ld_i5 (np := 174) dX7_rings_172 rfl ?_
                                refine wl_imul (np := 175) dX7_rings_174 rfl ?_
                                refine wl_iconst (np := 176) (v := nI 3) dX7_rings_175 rfl (rfl) ?_
                                refine wl_iadd (np := 177) dX7_rings_176 rfl ?_
                                refine wl_ialoadN (np := 178) dX7_rings_177 rfl (by first | (simp only [nIm, nIa, ← nI_succ]; exact rfl) | exact nI_z | exact nI_o | exact rfl) (by assumption) (by omega) (by first | decide | omega) ?_
                                refine wl_if_le (np := 181) (tg := 220) dX7_rings_178 rfl rfl (fun c_178 => ?_) (fun c_178 => ?_)
                                · rw [hq1.2.2.2.1, nI_z, nI_leI (by omega) (by decide)] at c_178
                                  exact k220 (hno (by omega)) _ _ _ _ _
                                · rw [hq1.2.2.2.1, nI_z, nI_leI (by omega) (by decide)] at c_178
                                  refine ld_a0 (np := 182) dX7_rings_181 rfl ?_
                                  refine wl_getr (np := 185) dX7_rings_182 rfl fl_X7_7 rfl (by assumption) (by assumption) ?_
                                  refine wl_bipush (np := 187) (v := nI 40) dX7_rings_185 rfl (by decide) ?_
                                  refine ld_i6 (np := 189) dX7_rings_187 rfl ?_
                                  refine wl_imul (np := 190) dX7_rings_189 rfl ?_
                                  refine wl_iconst (np := 191) (v := nI 3) dX7_rings_190 rfl (rfl) ?_
                                  refine wl_iadd (np := 192) dX7_rings_191 rfl ?_
                                  refine wl_ialoadN (np := 193) dX7_rings_192 rfl (by first | (simp only [nIm, nIa, ← nI_succ]; exact rfl) | exact nI_z | exact nI_o | exact rfl) (by assumption) (by omega) (by first | decide | omega) ?_
                                  refine wl_if_le (np := 196) (tg := 220) dX7_rings_193 rfl rfl (fun c_193 => ?_) (fun c_193 => ?_)
                                  · rw [hq2.2.2.2.1, nI_z, nI_leI (by omega) (by decide)] at c_193
                                    exact k220 (hno (by omega)) _ _ _ _ _
                                  · rw [hq2.2.2.2.1, nI_z, nI_leI (by omega) (by decide)] at c_193
                                    refine ld_i7 (np := 198) dX7_rings_196 rfl ?_
                                    refine wl_if_lt (np := 201) (tg := 216) dX7_rings_198 rfl rfl (fun c_198 => ?_) (fun c_198 => ?_)
                                    · exact absurd c_198 (nI_pos (by omega))
                                    · refine ld_a0 (np := 202) dX7_rings_201 rfl ?_
                                      refine wl_getr (np := 205) dX7_rings_202 rfl fl_X7_7 rfl (by assumption) (by assumption) ?_
                                      refine wl_bipush (np := 207) (v := nI 40) dX7_rings_205 rfl (by decide) ?_
                                      refine ld_i7 (np := 209) dX7_rings_207 rfl ?_
                                      refine wl_imul (np := 210) dX7_rings_209 rfl ?_
                                      refine wl_iconst (np := 211) (v := nI 3) dX7_rings_210 rfl (rfl) ?_
                                      refine wl_iadd (np := 212) dX7_rings_211 rfl ?_
                                      refine wl_ialoadN (np := 213) dX7_rings_212 rfl (by first | (simp only [nIm, nIa, ← nI_succ]; exact rfl) | exact nI_z | exact nI_o | exact rfl) (by assumption) (by omega) (by first | decide | omega) ?_
                                      refine wl_if_le (np := 216) (tg := 220) dX7_rings_213 rfl rfl (fun c_213 => ?_) (fun c_213 => ?_)
                                      · rw [hq3.2.2.2.1, nI_z, nI_leI (by omega) (by decide)] at c_213
                                        exact k220 (hno (by omega)) _ _ _ _ _
                                      · rw [hq3.2.2.2.1, nI_z, nI_leI (by omega) (by decide)] at c_213
                                        refine wl_iconst (np := 217) (v := 1) dX7_rings_216 rfl (rfl) ?_
                                        refine wl_goto (tg := 221) dX7_rings_217 rfl ?_
                                        refine st_i8 (np := 223) dX7_rings_221 rfl (by decide) rfl ?_
                                        refine ld_i8 (np := 225) dX7_rings_223 rfl ?_
                                        refine wl_if_eq (np := 228) (tg := 241) dX7_rings_225 rfl rfl (fun c_225 => ?_) (fun c_225 => ?_)
                                        · exact absurd c_225 (by decide)
                                        · refine ld_a0 (np := 229) dX7_rings_228 rfl ?_
                                          refine ld_i5 (np := 231) dX7_rings_229 rfl ?_
                                          refine ld_i6 (np := 233) dX7_rings_231 rfl ?_
                                          refine ld_i7 (np := 235) dX7_rings_233 rfl ?_
                                          refine ciV_3 (np := 238) dX7_rings_235 rfl lk_X7_186 (by assumption) (Nat.le_of_ble_eq_true rfl) (by omega) (Nat.le_refl _) (Nat.le_refl _) (c_M_saved3 hFs hq1 hq2 hq3 (v2 a P hP) (v2 b P2 hP2) (v2 c P3 hP3) (hlen P (List.mem_of_getElem? hP)) (hlen P2 (List.mem_of_getElem? hP2)) (hlen P3 (List.mem_of_getElem? hP3)) (by omega) (by omega) (by omega) hba hbb hbc (by omega)) (fun x_235 m_235 h_235 => ?_)
                                          obtain ⟨rfl, q_235⟩ := h_235
                                          have q_235 := q_235.symm
                                          subst q_235
                                          refine wl_goto (tg := 242) dX7_rings_238 rfl ?_
                                          exact k242 _ _ hfo (hrl2 _) _ _ _ _ _ rfl
              · rw [nI_leI (by decide) (by omega)] at c_85
                omega
            · rw [nI_leI (by decide) (by omega)] at c_60
              omega
          · rw [nI_leI (by decide) (by omega)] at c_36
            have ea : nI code / nI 5 = nI (code / 5) := pk_div (by omega) (by decide) (by decide)
            have eb : nI code - nI code / nI 5 * nI 5 = nI (code % 5) := pk_rem (by omega) (by decide) (by decide)
            have hdc : dC code = .inl (code / 5, code % 5) := by unfold dC; rw [if_pos (by omega)]
            refine ld_i4 (np := 41) dX7_rings_39 rfl ?_
            refine wl_iconst (np := 42) (v := nI 5) dX7_rings_41 rfl (rfl) ?_
            refine wl_idiv (np := 43) dX7_rings_42 rfl (by decide) ?_
            refine wl_goto (tg := 54) dX7_rings_43 rfl ?_
            refine st_i5 (np := 56) dX7_rings_54 rfl (by decide) rfl ?_
            refine ld_i4 (np := 58) dX7_rings_56 rfl ?_
            refine wl_bipush (np := 60) (v := nI 25) dX7_rings_58 rfl (by decide) ?_
            refine wl_icmp_ge (np := 63) (tg := 70) dX7_rings_60 rfl rfl (fun c_60 => ?_) (fun c_60 => ?_)
            · rw [nI_leI (by decide) (by omega)] at c_60
              omega
            · refine ld_i4 (np := 65) dX7_rings_63 rfl ?_
              refine wl_iconst (np := 66) (v := nI 5) dX7_rings_65 rfl (rfl) ?_
              refine wl_irem (np := 67) dX7_rings_66 rfl (by decide) ?_
              refine wl_goto (tg := 79) dX7_rings_67 rfl ?_
              refine st_i6 (np := 81) dX7_rings_79 rfl (by decide) rfl ?_
              refine ld_i4 (np := 83) dX7_rings_81 rfl ?_
              refine wl_bipush (np := 85) (v := nI 25) dX7_rings_83 rfl (by decide) ?_
              refine wl_icmp_ge (np := 88) (tg := 92) dX7_rings_85 rfl rfl (fun c_85 => ?_) (fun c_85 => ?_)
              · rw [nI_leI (by decide) (by omega)] at c_85
                omega
              · refine wl_iconst (np := 89) (v := -1) dX7_rings_88 rfl (rfl) ?_
                refine wl_goto (tg := 99) dX7_rings_89 rfl ?_
                refine st_i7 (np := 101) dX7_rings_99 rfl (by decide) rfl ?_
                rw [eb, ea]
                rw [hdc] at hfo
                have hrl2 : ∀ own, B.1 < own → rlB (own, 2, nI (code / 5), nI (code % 5), -1) (nI code) := fun own hown => ⟨fun q => hrl.1 (Int32.lt_trans hown q), Or.inr ⟨code, by omega, rfl, Or.inl ⟨by omega, rfl⟩⟩⟩
                have hfo : foC S.1.1 S.1.1.length fuel (code + 1) (if decide (code / 5 < S.1.1.length ∧ code % 5 < S.1.1.length ∧ code / 5 < code % 5) = true then st2 S.1.1 (code / 5) (code % 5) B else B) = bestB S.1.1 := hfo
                have hba : code / 5 < 5 := by omega
                have hbb : code % 5 < 5 := by omega
                generalize code / 5 = a at *
                generalize code % 5 = b at *
                simp only [decide_eq_true_eq] at hfo
                refine ld_i5 (np := 103) dX7_rings_101 rfl ?_
                refine ld_a0 (np := 104) dX7_rings_103 rfl ?_
                refine wl_geti (np := 107) dX7_rings_104 rfl fl_X7_64 (by decide) (by assumption) ?_
                refine wl_icmp_ge (np := 110) (tg := 158) dX7_rings_107 rfl rfl (fun c_107 => ?_) (fun c_107 => ?_)
                · rw [v3, nI_leI (by omega) (by omega)] at c_107
                  rw [if_neg (fun q => by omega)] at hfo
                  exact k158 hfo _ _ _ _ _
                · rw [v3, nI_leI (by omega) (by omega)] at c_107
                  refine ld_i6 (np := 112) dX7_rings_110 rfl ?_
                  refine ld_a0 (np := 113) dX7_rings_112 rfl ?_
                  refine wl_geti (np := 116) dX7_rings_113 rfl fl_X7_64 (by decide) (by assumption) ?_
                  refine wl_icmp_ge (np := 119) (tg := 158) dX7_rings_116 rfl rfl (fun c_116 => ?_) (fun c_116 => ?_)
                  · rw [v3, nI_leI (by omega) (by omega)] at c_116
                    rw [if_neg (fun q => by omega)] at hfo
                    exact k158 hfo _ _ _ _ _
                  · rw [v3, nI_leI (by omega) (by omega)] at c_116
                    refine ld_i7 (np := 121) dX7_rings_119 rfl ?_
                    refine ld_a0 (np := 122) dX7_rings_121 rfl ?_
                    refine wl_geti (np := 125) dX7_rings_122 rfl fl_X7_64 (by decide) (by assumption) ?_
                    refine wl_icmp_ge (np := 128) (tg := 158) dX7_rings_125 rfl rfl (fun c_125 => ?_) (fun c_125 => ?_)
                    · rw [v3] at c_125
                      exact absurd (Int32.le_trans (nI_pos' (by omega)) c_125) (by decide)
                    · refine ld_i5 (np := 130) dX7_rings_128 rfl ?_
                      refine ld_i6 (np := 132) dX7_rings_130 rfl ?_
                      refine wl_icmp_ge (np := 135) (tg := 158) dX7_rings_132 rfl rfl (fun c_132 => ?_) (fun c_132 => ?_)
                      · rw [nI_leI (by omega) (by omega)] at c_132
                        rw [if_neg (fun q => by omega)] at hfo
                        exact k158 hfo _ _ _ _ _
                      · rw [nI_leI (by omega) (by omega)] at c_132
                        refine ld_i6 (np := 137) dX7_rings_135 rfl ?_
                        refine ld_i7 (np := 139) dX7_rings_137 rfl ?_
                        refine wl_icmp_eq (np := 142) (tg := 158) dX7_rings_139 rfl rfl (fun c_139 => ?_) (fun c_139 => ?_)
                        · exact absurd (nI_pos' (n := b) (by omega)) (by rw [c_139]; decide)
                        · refine ld_i7 (np := 144) dX7_rings_142 rfl ?_
                          refine wl_if_lt (np := 147) (tg := 154) dX7_rings_144 rfl rfl (fun c_144 => ?_) (fun c_144 => ?_)
                          · rw [if_pos ⟨by omega, by omega, by omega⟩] at hfo
                            obtain ⟨P, hP⟩ : ∃ P, S.1.1[a]? = some P := ⟨_, List.getElem?_eq_getElem (by omega)⟩
                            obtain ⟨P2, hP2⟩ : ∃ P, S.1.1[b]? = some P := ⟨_, List.getElem?_eq_getElem (by omega)⟩
                            have hq1 := v1.2 a P hP
                            have hq2 := v1.2 b P2 hP2
                            have l1 := hq1.2.2.2.2.1
                            have l2 := hq2.2.2.2.2.1
                            have hst : st2 S.1.1 a b B = if B.1 < sav2 P P2 then (sav2 P P2, 2, nI a, nI b, -1) else B := by unfold st2; rw [hP, hP2]; rfl
                            rw [hst] at hfo
                            have hno : (P.2.1.length = 0 ∨ P2.2.1.length = 0) → foC S.1.1 S.1.1.length fuel (code + 1) B = bestB S.1.1 := fun q => by
                              rw [sav2_0 q, if_neg hrl.1] at hfo
                              exact hfo
                            refine wl_iconst (np := 155) (v := 1) dX7_rings_154 rfl (rfl) ?_
                            refine wl_goto (tg := 159) dX7_rings_155 rfl ?_
                            refine st_i8 (np := 161) dX7_rings_159 rfl (by decide) rfl ?_
                            refine ld_i8 (np := 163) dX7_rings_161 rfl ?_
                            refine wl_if_eq (np := 166) (tg := 220) dX7_rings_163 rfl rfl (fun c_163 => ?_) (fun c_163 => ?_)
                            · exact absurd c_163 (by decide)
                            · refine ld_a0 (np := 167) dX7_rings_166 rfl ?_
                              refine wl_getr (np := 170) dX7_rings_167 rfl fl_X7_7 rfl (by assumption) (by assumption) ?_
                              refine wl_bipush (np := 172) (v := nI 40) dX7_rings_170 rfl (by decide) ?_
                              refine ld_i5 (np := 174) dX7_rings_172 rfl ?_
                              refine wl_imul (np := 175) dX7_rings_174 rfl ?_
                              refine wl_iconst (np := 176) (v := nI 3) dX7_rings_175 rfl (rfl) ?_
                              refine wl_iadd (np := 177) dX7_rings_176 rfl ?_
                              refine wl_ialoadN (np := 178) dX7_rings_177 rfl (by first | (simp only [nIm, nIa, ← nI_succ]; exact rfl) | exact nI_z | exact nI_o | exact rfl) (by assumption) (by omega) (by first | decide | omega) ?_
                              refine wl_if_le (np := 181) (tg := 220) dX7_rings_178 rfl rfl (fun c_178 => ?_) (fun c_178 => ?_)
                              · rw [hq1.2.2.2.1, nI_z, nI_leI (by omega) (by decide)] at c_178
                                exact k220 (hno (by omega)) _ _ _ _ _
                              · rw [hq1.2.2.2.1, nI_z, nI_leI (by omega) (by decide)] at c_178
                                refine ld_a0 (np := 182) dX7_rings_181 rfl ?_
                                refine wl_getr (np := 185) dX7_rings_182 rfl fl_X7_7 rfl (by assumption) (by assumption) ?_
                                refine wl_bipush (np := 187) (v := nI 40) dX7_rings_185 rfl (by decide) ?_
                                refine ld_i6 (np := 189) dX7_rings_187 rfl ?_
                                refine wl_imul (np := 190) dX7_rings_189 rfl ?_
                                refine wl_iconst (np := 191) (v := nI 3) dX7_rings_190 rfl (rfl) ?_
                                refine wl_iadd (np := 192) dX7_rings_191 rfl ?_
                                refine wl_ialoadN (np := 193) dX7_rings_192 rfl (by first | (simp only [nIm, nIa, ← nI_succ]; exact rfl) | exact nI_z | exact nI_o | exact rfl) (by assumption) (by omega) (by first | decide | omega) ?_
                                refine wl_if_le (np := 196) (tg := 220) dX7_rings_193 rfl rfl (fun c_193 => ?_) (fun c_193 => ?_)
                                · rw [hq2.2.2.2.1, nI_z, nI_leI (by omega) (by decide)] at c_193
                                  exact k220 (hno (by omega)) _ _ _ _ _
                                · rw [hq2.2.2.2.1, nI_z, nI_leI (by omega) (by decide)] at c_193
                                  refine ld_i7 (np := 198) dX7_rings_196 rfl ?_
                                  refine wl_if_lt (np := 201) (tg := 216) dX7_rings_198 rfl rfl (fun c_198 => ?_) (fun c_198 => ?_)
                                  · refine wl_iconst (np := 217) (v := 1) dX7_rings_216 rfl (rfl) ?_
                                    refine wl_goto (tg := 221) dX7_rings_217 rfl ?_
                                    refine st_i8 (np := 223) dX7_rings_221 rfl (by decide) rfl ?_
                                    refine ld_i8 (np := 225) dX7_rings_223 rfl ?_
                                    refine wl_if_eq (np := 228) (tg := 241) dX7_rings_225 rfl rfl (fun c_225 => ?_) (fun c_225 => ?_)
                                    · exact absurd c_225 (by decide)
                                    · refine ld_a0 (np := 229) dX7_rings_228 rfl ?_
                                      refine ld_i5 (np := 231) dX7_rings_229 rfl ?_
                                      refine ld_i6 (np := 233) dX7_rings_231 rfl ?_
                                      refine ld_i7 (np := 235) dX7_rings_233 rfl ?_
                                      refine ciV_3 (np := 238) dX7_rings_235 rfl lk_X7_186 (by assumption) (Nat.le_of_ble_eq_true rfl) (by omega) (Nat.le_refl _) (Nat.le_refl _) (c_M_saved2 hFs hq1 hq2 (v2 a P hP) (v2 b P2 hP2) (hlen P (List.mem_of_getElem? hP)) (hlen P2 (List.mem_of_getElem? hP2)) (by omega) (by omega) hba hbb (by omega)) (fun x_235 m_235 h_235 => ?_)
                                      obtain ⟨rfl, q_235⟩ := h_235
                                      have q_235 := q_235.symm
                                      subst q_235
                                      refine wl_goto (tg := 242) dX7_rings_238 rfl ?_
                                      exact k242 _ _ hfo (hrl2 _) _ _ _ _ _ rfl
                                  · exact absurd (show (-1 : Int32) < 0 by decide) c_198
                          · exact absurd (show (-1 : Int32) < 0 by decide) c_144
    refine wl_iconst (np := 17) (v := 0) dX7_rings_16 rfl (rfl) ?_
    refine st_i2 (np := 18) dX7_rings_17 rfl (by decide) rfl ?_
    refine wl_bipush (np := 20) (v := -4) dX7_rings_18 rfl (by decide) ?_
    refine st_i3 (np := 21) dX7_rings_20 rfl (by decide) rfl ?_
    refine wl_iconst (np := 22) (v := 0) dX7_rings_21 rfl (rfl) ?_
    refine st_i4 (np := 24) dX7_rings_22 rfl (by decide) rfl ?_
    exact key 150 0 (-4) (0, 0, 0, 0, 0) (by omega) (foC_eq hn5) ⟨by decide, Or.inl ⟨rfl, rfl⟩⟩ _ _ _ _ _
  · unfold sp_rings
    rw [cif_f (if0 c_11)]
    refine wl_iconst (np := 15) (v := -1) dX7_rings_14 rfl (rfl) ?_
    refine wi_ret dX7_rings_15 rfl (rfl) (Nat.le_refl _) (Nat.le_refl _) ?_
    exact ⟨rfl, GoodM.same hFs hR⟩
end M17
