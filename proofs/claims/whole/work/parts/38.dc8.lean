/-! ===== specs, third part: told payments, sheets ===== -/
noncomputable def refS (T : Sht) (lane i n : Int32) : Int32 := match T with
  | none => -11
  | some (l, L, _) => if l = lane then cif (inS L i n) 0 (-13) else -12
theorem refR_eq {T : Sht} {lane i n x : Int32} (h : RefR T lane i n x) : x = refS T lane i n := by
  match T, h with
  | none, h => exact h
  | some (l, L, f), h =>
    unfold refS
    dsimp only
    rcases h with ⟨h1, h2⟩ | ⟨h1, h2, h3⟩ | ⟨h1, h2, h3⟩
    · rw [if_neg h1]; exact h2
    · rw [if_pos h1, cif_t h2]; exact h3
    · rw [if_pos h1, cif_f h2]; exact h3
def itS (T : Sht) : Nat → Int32 := match T with
  | none => fun _ => 0
  | some (_, _, f) => f
noncomputable def payO (W : Wld) (dd p c : Int32) : Option Wld := cif (inR dd (nI W.2.2.2.1) 359 ∧ isCt W.1 p c) (cif (mayC W.2.2.1.1 (wsI (getP (nightsW (dd.toNatClampNeg - W.2.2.2.1) W).1 p).2.1.length) c ∧ ¬ (getP (nightsW (dd.toNatClampNeg - W.2.2.2.1) W).1 p).1.1 < amtOf (getP (nightsW (dd.toNatClampNeg - W.2.2.2.1) W).1 p) c.toNatClampNeg) (some (setP (nightsW (dd.toNatClampNeg - W.2.2.2.1) W) p.toNatClampNeg (payP (getP (nightsW (dd.toNatClampNeg - W.2.2.2.1) W).1 p) c.toNatClampNeg))) none) none
theorem payO_iff {W V : Wld} {dd p c : Int32} (hdy : W.2.2.2.1 ≤ 359) (h5 : W.1.length ≤ 5) (h8 : ∀ P ∈ W.1, P.2.1.length ≤ 8) : PayR W dd p c V ↔ payO W dd p c = some V := by
  constructor
  · rintro ⟨t, k, j, P, rfl, ht1, ht2, rfl, rfl, hPk, hj, hm, hp, rfl⟩
    obtain ⟨f1, f2, f3, f4, f5, f6, f7⟩ := nights_facts (t - W.2.2.2.1) W
    have hk : k < W.1.length := by rw [← f1]; exact (List.getElem?_eq_some_iff.mp hPk).1
    obtain ⟨P', hP', hl'⟩ := f6 k _ (List.getElem?_eq_getElem hk)
    rw [hPk] at hP'
    cases hP'
    have hle := h8 _ (List.getElem_mem hk)
    unfold payO
    rw [cif_t ⟨⟨nI_le (by omega) (by omega), show nI t ≤ nI 359 from nI_le (by omega) (by omega)⟩, ⟨k, _, j, List.getElem?_eq_getElem hk, rfl, by omega, rfl⟩⟩, nI_clamp (by omega), getP_nI hPk (by omega), nI_clamp (by omega), nI_clamp (by omega)]
    rw [cif_t ⟨hm, hp⟩]
  · intro h
    unfold payO at h
    by_cases h1 : inR dd (nI W.2.2.2.1) 359 ∧ isCt W.1 p c
    · rw [cif_t h1] at h
      obtain ⟨⟨h2, h3⟩, ⟨k, P0, j, hPk, rfl, hj, rfl⟩⟩ := h1
      obtain ⟨t, ht, rfl⟩ := nI_of2 (x := dd) (M := 359) (n := 359) rfl (Int32.not_lt.mpr (Int32.le_trans (nI_pos' (by omega)) h2)) h3
      have hdt : W.2.2.2.1 ≤ t := (nI_leI (by omega) (by omega)).mp h2
      obtain ⟨f1, f2, f3, f4, f5, f6, f7⟩ := nights_facts (t - W.2.2.2.1) W
      have hk := (List.getElem?_eq_some_iff.mp hPk).1
      obtain ⟨P, hP', hl'⟩ := f6 k _ hPk
      have hle := h8 _ (mem_of_get hPk)
      rw [nI_clamp (by omega), getP_nI hP' (by omega), nI_clamp (by omega), nI_clamp (by omega)] at h
      by_cases h4 : mayC W.2.2.1.1 (wsI P.2.1.length) (nI j) ∧ ¬ P.1.1 < amtOf P j
      · rw [cif_t h4] at h
        cases h
        exact ⟨t, k, j, P, rfl, hdt, ht, rfl, rfl, hP', by omega, h4.1, h4.2, rfl⟩
      · rw [cif_f h4] at h
        cases h
    · rw [cif_f h1] at h
      cases h
noncomputable def jdF (f : Nat → Int32) (i : Nat) : Nat → Nat → Wld → Int32
  | 0, _, _ => -4
  | n + 1, k, W => match payO W (f (i + 3 * k)) (f (i + 3 * k + 1)) (f (i + 3 * k + 2)) with
    | none => nI k
    | some V => jdF f i n (k + 1) V
noncomputable def sp_judged (S : St) (s lane i n : Int32) : Int32 × St := cif (inR s 0 3 ∧ inR lane 0 2 ∧ inR n 1 8) (if refS (S.2.2.2 s.toNatClampNeg) lane i (3 * n) = 0 then (jdF (itS (S.2.2.2 s.toNatClampNeg)) i.toNatClampNeg n.toNatClampNeg 0 S.1, S) else (refS (S.2.2.2 s.toNatClampNeg) lane i (3 * n), S)) (-1, S)
def setSh (S : St) (k : Nat) (T : Sht) : St := (S.1, S.2.1, S.2.2.1, fun j => if j = k then T else S.2.2.2 j)
noncomputable def sp_sheet (S : St) (s lane n : Int32) : Int32 × St := cif (inR s 0 3 ∧ inR lane 0 2 ∧ n ≤ 24) (if n < 0 then (-14, S) else (n, setSh S s.toNatClampNeg (some (lane, n.toNatClampNeg, fun _ => 0)))) (-1, S)
noncomputable def sp_drop (S : St) (s : Int32) : Int32 × St := cif (inR s 0 3) (match S.2.2.2 s.toNatClampNeg with
  | none => (-11, S)
  | some (_, L, _) => (nI L, setSh S s.toNatClampNeg none)) (-1, S)
def putIt (T : Sht) (i : Nat) (v : Int32) : Sht := match T with
  | none => none
  | some (l, L, f) => some (l, L, fun j => if j = i then v else f j)
noncomputable def sp_item (S : St) (s lane i v : Int32) : Int32 × St := cif (inR s 0 3 ∧ inR lane 0 2) (if refS (S.2.2.2 s.toNatClampNeg) lane i 1 = 0 then (1, setSh S s.toNatClampNeg (putIt (S.2.2.2 s.toNatClampNeg) i.toNatClampNeg (narS lane v))) else (refS (S.2.2.2 s.toNatClampNeg) lane i 1, S)) (-1, S)
noncomputable def cpyS (S : St) (i b j n : Int32) : Sht → Sht → Int32 × St
  | some (l, L, f), some (l2, L2, f2) => if l = l2 then cif (inS L i n ∧ inS L2 j n) (n, setSh S b.toNatClampNeg (some (l2, L2, fun x => if j.toNatClampNeg ≤ x ∧ x < j.toNatClampNeg + n.toNatClampNeg then f (i.toNatClampNeg + (x - j.toNatClampNeg)) else f2 x))) (-13, S) else (-12, S)
  | _, _ => (-11, S)
noncomputable def sp_copy (S : St) (a i b j n : Int32) : Int32 × St := cif (inR a 0 3 ∧ inR b 0 3) (cpyS S i b j n (S.2.2.2 a.toNatClampNeg) (S.2.2.2 b.toNatClampNeg)) (-1, S)
section DC8
variable {sh : List Shp} {me : Mem} {d kk : Nat} {S : St}
theorem GoodC.s {m : Mem} {k : Nat} {T : Sht} (hF : FixC sh me) (hR : RepC me S) (hO : Onl me m (128 + 2 * k) (128 + 2 * k + 2)) (hk : k < 4) (hT : RepS m (128 + 2 * k) T) : GoodC sh me m (setSh S k T) := by
  obtain ⟨h1, h2, ⟨h3, h4, h5⟩, h6⟩ := hR
  refine ⟨⟨h1.fr (fun a ha hb => hO.2 a (by omega)), ?_, ⟨(hO.g (by omega)).trans h3, h4, fun i hi => (hO.g (by omega)).trans (h5 i hi)⟩, fun j hj => ?_⟩, hF.of (RfK.of hO.1), RfK.of hO.1, fun a ha => hO.2 a (by omega)⟩
  · have e0 : gI m 0 8 = gI me 0 8 := hO.g (by omega)
    unfold setSh
    dsimp only
    cases hI : S.2.1 with
    | none => rw [hI] at h2; exact e0.trans h2
    | some V => rw [hI] at h2; exact ⟨e0.trans h2.1, h2.2.fr (fun a ha hb => hO.2 a (by omega))⟩
  · unfold setSh
    dsimp only
    by_cases hjk : j = k
    · subst hjk
      rw [if_pos rfl]
      exact hT
    · rw [if_neg hjk]
      exact (h6 j hj).fr (fun a ha hb => hO.2 a (by omega))
theorem mul3 : ∀ n, n ≤ 8 → (3 : Int32) * nI n = nI (3 * n) := by decide +kernel
set_option maxHeartbeats 4000000 in
set_option maxRecDepth 100000 in
theorem c_dc_judged (s lane i n : Int32) (hF : FixC sh me) (hR : RepC me S) (hlen : lenW S.1) (hd : 6 ≤ d) : CI d mX6_judged sh [.ref 0, .int s, .int lane, .int i, .int n] me (fun x m => x = (sp_judged S s lane i n).1 ∧ GoodC sh me m (sp_judged S s lane i n).2) := by
  have hFs := hF
  obtain ⟨z0, ⟨g0, g1, g2, g3, g4, g5, g6, g7⟩, ⟨w1, w2, w3, pp1, l1, b1, t1⟩, zs, zss⟩ := hF
  have hw1 := w1
  obtain ⟨s0, s1, s2, s3, s4, r0, r1, r2, r3, hP⟩ := w1
  have hn5 := hR.1.1.1
  have hn := hR.1.2.1
  have w30 := w3.1
  refine CI.mk (L := [.ref 0, .int s, .int lane, .int i, .int n, .float 0, .float 0, .float 0, .float 0]) (by decide) (Nat.le_of_ble_eq_true rfl) rfl ?_
  have bad : ¬ (inR s 0 3 ∧ inR lane 0 2 ∧ inR n 1 8) → ∀ L4, Wa mX6_judged (0, fun _ => 0) d 0 0 sh.length (PI sh (fun x m => x = (sp_judged S s lane i n).1 ∧ GoodC sh me m (sp_judged S s lane i n).2)) 25 L4 [] sh me 0 0 := by
    intro hb L4
    unfold sp_judged
    rw [cif_f hb]
    refine wl_iconst (np := 26) (v := -1) dX6_judged_25 rfl (rfl) ?_
    refine wi_ret dX6_judged_26 rfl (rfl) (Nat.le_refl _) (Nat.le_refl _) ?_
    exact ⟨rfl, GoodC.same hFs hR⟩
  refine ld_i1 (np := 1) dX6_judged_0 rfl ?_
  refine ciS_1 (np := 4) dX6_judged_1 rfl lk_X6_261 (Nat.le_of_ble_eq_true rfl) (by omega) (Nat.le_refl _) (Nat.le_refl _) (c_isSheet _ (by omega)) (fun x_1 m_1 h_1 => ?_)
  obtain ⟨rfl, q_1⟩ := h_1
  have q_1 := q_1.symm
  subst q_1
  refine wl_if_eq (np := 7) (tg := 25) dX6_judged_4 rfl rfl (fun c_4 => ?_) (fun c_4 => ?_)
  · exact bad (fun h => if0 c_4 h.1) _
  · refine ld_i2 (np := 8) dX6_judged_7 rfl ?_
    refine ciS_1 (np := 11) dX6_judged_8 rfl lk_X6_264 (Nat.le_of_ble_eq_true rfl) (by omega) (Nat.le_refl _) (Nat.le_refl _) (c_isLane _ (by omega)) (fun x_8 m_8 h_8 => ?_)
    obtain ⟨rfl, q_8⟩ := h_8
    have q_8 := q_8.symm
    subst q_8
    refine wl_if_eq (np := 14) (tg := 25) dX6_judged_11 rfl rfl (fun c_11 => ?_) (fun c_11 => ?_)
    · exact bad (fun h => if0 c_11 h.2.1) _
    · refine ld_i4 (np := 16) dX6_judged_14 rfl ?_
      refine wl_iconst (np := 17) (v := 1) dX6_judged_16 rfl (rfl) ?_
      refine wl_bipush (np := 19) (v := 8) dX6_judged_17 rfl (by decide) ?_
      refine ciS_3 (np := 22) dX6_judged_19 rfl lk_X6_61 (Nat.le_of_ble_eq_true rfl) (by omega) (Nat.le_refl _) (Nat.le_refl _) (c_isWithin _ _ _) (fun x_19 m_19 h_19 => ?_)
      obtain ⟨rfl, q_19⟩ := h_19
      have q_19 := q_19.symm
      subst q_19
      refine wl_if_ne (np := 25) (tg := 27) dX6_judged_22 rfl rfl (fun c_22 => ?_) (fun c_22 => ?_)
      · have hgood : inR s 0 3 ∧ inR lane 0 2 ∧ inR n 1 8 := ⟨if1 c_4, if1 c_11, if1 c_22⟩
        obtain ⟨k, hk, rfl⟩ := nI_of2 (x := s) (M := 3) (n := 3) rfl (Int32.not_lt.mpr hgood.1.1) hgood.1.2
        obtain ⟨nn, hnn, rfl⟩ := nI_of2 (x := n) (M := 8) (n := 8) rfl (Int32.not_lt.mpr (Int32.le_trans (by decide) hgood.2.2.1)) hgood.2.2.2
        obtain ⟨gs, gt⟩ := zss k (by omega)
        have hrS := hR.2.2.2 k (by omega)
        unfold sp_judged
        rw [cif_t hgood, nI_clamp (by omega), nI_clamp (by omega)]
        have gt0 := gt.1
        have gt1 := gt.2.1
        have gt2 := gt.2.2
        refine ld_a0 (np := 28) dX6_judged_27 rfl ?_
        refine wl_getr (np := 31) dX6_judged_28 rfl fl_X6_52 rfl (by assumption) (by first | assumption | (rw [nI_clamp (by omega)]; assumption)) ?_
        refine ld_i1 (np := 32) dX6_judged_31 rfl ?_
        refine wl_aaload (np := 33) dX6_judged_32 rfl (by assumption) (by decide) (vp_in_nI (by omega) (by decide)) (by first | assumption | (rw [nI_clamp (by omega)]; assumption)) ?_
        refine st_a5 (np := 35) dX6_judged_33 rfl (by decide) rfl ?_
        refine ld_a5 (np := 37) dX6_judged_35 rfl ?_
        refine ld_i2 (np := 38) dX6_judged_37 rfl ?_
        refine ld_i3 (np := 39) dX6_judged_38 rfl ?_
        refine wl_iconst (np := 40) (v := 3) dX6_judged_39 rfl (rfl) ?_
        refine ld_i4 (np := 42) dX6_judged_40 rfl ?_
        refine wl_imul (np := 43) dX6_judged_42 rfl ?_
        refine ciV_3 (np := 46) dX6_judged_43 rfl lk_X6_267 (by assumption) (Nat.le_of_ble_eq_true rfl) (by omega) (Nat.le_refl _) (Nat.le_refl _) (c_refusal lane i (3 * nI nn) gt hrS (by omega)) (fun x_43 m_43 h_43 => ?_)
        obtain ⟨h43, q43⟩ := h_43
        have q43 := q43.symm
        subst q43
        have hx := refR_eq h43
        refine st_i6 (np := 48) dX6_judged_46 rfl (by decide) rfl ?_
        refine ld_i6 (np := 50) dX6_judged_48 rfl ?_
        refine wl_if_eq (np := 53) (tg := 56) dX6_judged_50 rfl rfl (fun c_50 => ?_) (fun c_50 => ?_)
        · rw [c_50] at hx
          rw [if_pos hx.symm]
          rw [c_50] at h43
          match hT : S.2.2.2 k, hrS, h43 with
          | none, _, h43 => exact absurd (show (0 : Int32) = -11 from h43) (by decide)
          | some (l, L, f), hrS, h43 =>
            obtain ⟨e1, e2, e3, e4, e5⟩ := hrS
            rcases h43 with ⟨-, h⟩ | ⟨hl, ⟨ia, ib, rfl, hib, hab⟩, -⟩ | ⟨-, -, h⟩
            · exact absurd h (by decide)
            · rw [mul3 nn hnn, nI_eq (by omega) (by omega)] at hib
              rw [nI_clamp (by omega)]
              have hitS : itS (some (l, L, f)) = f := rfl
              rw [hitS]
              generalize hTg : jdF f ia nn 0 S.1 = T
              have key : ∀ fuel j (V : Wld) (m : Mem), fuel + j = nn → Onl me m 71 106 → RepW m 71 V → lenW V → jdF f ia fuel j V = T → ∀ v8, v8.category = 1 → Wa mX6_judged (0, fun _ => 0) d 0 0 sh.length (PI sh (fun x m => x = (T, S).1 ∧ GoodC sh me m (T, S).2)) 70 [.ref 0, .int (nI k), .int lane, .int (nI ia), .int (nI nn), .ref (128 + 2 * k), .int x_43, .int (nI j), v8] [] sh m 0 0 := by
                intro fuel
                induction fuel with
                | zero =>
                  intro j V m hj hO hV hlV hT2 v8 hv8
                  obtain ⟨I1, R1⟩ := m
                  obtain rfl : R1 = me.2 := hO.1
                  refine ld_i7 (np := 72) dX6_judged_70 rfl ?_
                  refine ld_i4 (np := 74) dX6_judged_72 rfl ?_
                  refine wl_icmp_ge (np := 77) (tg := 132) dX6_judged_74 rfl rfl (fun c_74 => ?_) (fun c_74 => ?_)
                  · refine wl_bipush (np := 134) (v := -4) dX6_judged_132 rfl (by decide) ?_
                    refine wi_ret dX6_judged_134 rfl (rfl) (Nat.le_refl _) (Nat.le_refl _) ?_
                    exact ⟨hT2, GoodC.w hFs hR (RfK.of rfl) (fun a ha hb => hO.2 a (by omega)) (hR.1.fr (fun a ha hb => hO.2 a (by omega)))⟩
                  · rw [nI_leI (by omega) (by omega)] at c_74
                    omega
                | succ fuel ih =>
                  intro j V m hj hO hV hlV hT2 v8 hv8
                  obtain ⟨I1, R1⟩ := m
                  obtain rfl : R1 = me.2 := hO.1
                  refine ld_i7 (np := 72) dX6_judged_70 rfl ?_
                  refine ld_i4 (np := 74) dX6_judged_72 rfl ?_
                  refine wl_icmp_ge (np := 77) (tg := 132) dX6_judged_74 rfl rfl (fun c_74 => ?_) (fun c_74 => ?_)
                  · rw [nI_leI (by omega) (by omega)] at c_74
                    omega
                  · have eA : nI ia + 3 * nI j = nI (ia + 3 * j) := by rw [mul3 j (by omega), nI_add]
                    have eB : nI ia + 3 * nI j + 1 = nI (ia + 3 * j + 1) := by rw [eA, nI_succ]
                    have eC : nI ia + 3 * nI j + 2 = nI (ia + 3 * j + 2) := by rw [eA, show (2 : Int32) = nI 2 from rfl, nI_add]
                    have fv : ∀ x, x < L → gI (I1, me.2) (128 + 2 * k + 1) x = f x := fun x hx => (hO.g (by omega)).trans (e5 x hx)
                    refine ld_i3 (np := 78) dX6_judged_77 rfl ?_
                    refine wl_iconst (np := 79) (v := 3) dX6_judged_78 rfl (rfl) ?_
                    refine ld_i7 (np := 81) dX6_judged_79 rfl ?_
                    refine wl_imul (np := 82) dX6_judged_81 rfl ?_
                    refine wl_iadd (np := 83) dX6_judged_82 rfl ?_
                    refine st_i8 (np := 85) dX6_judged_83 rfl (by decide) rfl ?_
                    refine ld_a0 (np := 86) dX6_judged_85 rfl ?_
                    refine wl_getr (np := 89) dX6_judged_86 rfl fl_X6_19 rfl (by assumption) (by first | assumption | (rw [nI_clamp (by omega)]; assumption)) ?_
                    refine ld_a5 (np := 91) dX6_judged_89 rfl ?_
                    refine wl_getr (np := 94) dX6_judged_91 rfl fl_X6_271 rfl (by assumption) (by first | assumption | (rw [nI_clamp (by omega)]; assumption)) ?_
                    refine ld_i8 (np := 96) dX6_judged_94 rfl ?_
                    refine wl_iaload (np := 97) dX6_judged_96 rfl (by rw [eA]; exact inA_n gt1 (by omega) (by decide)) ?_
                    refine ld_a5 (np := 99) dX6_judged_97 rfl ?_
                    refine wl_getr (np := 102) dX6_judged_99 rfl fl_X6_271 rfl (by assumption) (by first | assumption | (rw [nI_clamp (by omega)]; assumption)) ?_
                    refine ld_i8 (np := 104) dX6_judged_102 rfl ?_
                    refine wl_iconst (np := 105) (v := 1) dX6_judged_104 rfl (rfl) ?_
                    refine wl_iadd (np := 106) dX6_judged_105 rfl ?_
                    refine wl_iaload (np := 107) dX6_judged_106 rfl (by rw [eB]; exact inA_n gt1 (by omega) (by decide)) ?_
                    refine ld_a5 (np := 109) dX6_judged_107 rfl ?_
                    refine wl_getr (np := 112) dX6_judged_109 rfl fl_X6_271 rfl (by assumption) (by first | assumption | (rw [nI_clamp (by omega)]; assumption)) ?_
                    refine ld_i8 (np := 114) dX6_judged_112 rfl ?_
                    refine wl_iconst (np := 115) (v := 2) dX6_judged_114 rfl (rfl) ?_
                    refine wl_iadd (np := 116) dX6_judged_115 rfl ?_
                    refine wl_iaload (np := 117) dX6_judged_116 rfl (by rw [eC]; exact inA_n gt1 (by omega) (by decide)) ?_
                    refine ciV_3 (np := 120) dX6_judged_117 rfl lk_X6_274 (by assumption) (Nat.le_of_ble_eq_true rfl) (by omega) (Nat.le_refl _) (Nat.le_refl _) (c_canBePaid _ _ _ (w3.of rfl) hV hlV (by omega)) (fun x_117 m_117 h_117 => ?_)
                    obtain ⟨h117, hO2⟩ := h_117
                    rw [eC, eB, eA, nI_clamp (by omega), nI_clamp (by omega), nI_clamp (by omega), fv _ (by omega), fv _ (by omega), fv _ (by omega)] at h117
                    obtain ⟨I2, R2⟩ := m_117
                    obtain rfl : R2 = me.2 := hO2.1
                    have hO3 : Onl me (I2, me.2) 71 106 := hO.tr hO2
                    have hi : ∀ V', PayR V (f (ia + 3 * j)) (f (ia + 3 * j + 1)) (f (ia + 3 * j + 2)) V' ↔ _ := fun V' => payO_iff (V := V') hV.2.2.2.2.2.2.2.1 hV.1.1 (fun P hP => by
                      obtain ⟨y, hy⟩ := List.getElem?_of_mem hP
                      exact (hV.1.2 y P hy).2.2.2.2.2.1)
                    unfold jdF at hT2
                    refine wl_if_ne (np := 123) (tg := 126) dX6_judged_120 rfl rfl (fun c_120 => ?_) (fun c_120 => ?_)
                    · rcases h117 with ⟨-, V', hp, hrV', hlV'⟩ | ⟨h, -⟩
                      · rw [(hi V').mp hp] at hT2
                        refine inc_7 (np := 129) (v := _ + 1) dX6_judged_126 rfl rfl (by decide) rfl ?_
                        refine wl_goto (tg := 70) dX6_judged_129 rfl ?_
                        rw [← nI_succ]
                        exact ih (j + 1) V' _ (by omega) hO3 hrV' hlV' hT2 _ rfl
                      · exact absurd h c_120
                    · rcases h117 with ⟨h, -⟩ | ⟨-, h⟩
                      · rw [c_120] at h
                        exact absurd h (by decide)
                      · cases hpo : payO V (f (ia + 3 * j)) (f (ia + 3 * j + 1)) (f (ia + 3 * j + 2)) with
                        | some V' => exact absurd ⟨V', (hi V').mpr hpo⟩ h
                        | none =>
                          rw [hpo] at hT2
                          refine ld_i7 (np := 125) dX6_judged_123 rfl ?_
                          refine wi_ret dX6_judged_125 rfl (rfl) (Nat.le_refl _) (Nat.le_refl _) ?_
                          exact ⟨hT2, GoodC.w hFs hR (RfK.of rfl) (fun a ha hb => hO3.2 a (by omega)) (hR.1.fr (fun a ha hb => hO3.2 a (by omega)))⟩
              refine ld_a0 (np := 57) dX6_judged_56 rfl ?_
              refine wl_getr (np := 60) dX6_judged_57 rfl fl_X6_19 rfl (by assumption) (by first | assumption | (rw [nI_clamp (by omega)]; assumption)) ?_
              refine ld_a0 (np := 61) dX6_judged_60 rfl ?_
              refine wl_getr (np := 64) dX6_judged_61 rfl fl_X6_10 rfl (by assumption) (by first | assumption | (rw [nI_clamp (by omega)]; assumption)) ?_
              refine cvV_1 (np := 67) dX6_judged_64 rfl lk_X6_259 (by assumption) (Nat.le_of_ble_eq_true rfl) (by omega) (Nat.le_refl _) (Nat.le_refl _) (c_W_becomeLike w3 hw1 hR.1 (by omega) (by omega)) (fun m_64 h_64 => ?_)
              obtain ⟨y1, y2⟩ := h_64
              obtain ⟨I1, R1⟩ := m_64
              obtain rfl : R1 = me.2 := y2.1
              refine wl_iconst (np := 68) (v := 0) dX6_judged_67 rfl (rfl) ?_
              refine st_i7 (np := 70) dX6_judged_68 rfl (by decide) rfl ?_
              exact key nn 0 S.1 _ (by omega) y2 y1 hlen hTg _ rfl
            · exact absurd h (by decide)
        · rw [hx] at c_50
          rw [if_neg c_50]
          refine ld_i6 (np := 55) dX6_judged_53 rfl ?_
          refine wi_ret dX6_judged_55 rfl (rfl) (Nat.le_refl _) (Nat.le_refl _) ?_
          exact ⟨hx, GoodC.same hFs hR⟩
      · exact bad (fun h => if0 c_22 h.2.2) _
set_option maxHeartbeats 4000000 in
set_option maxRecDepth 100000 in
theorem c_dc_sheet (s lane n : Int32) (hF : FixC sh me) (hR : RepC me S) (hd : 2 ≤ d) : CI d mX6_sheet sh [.ref 0, .int s, .int lane, .int n] me (fun x m => x = (sp_sheet S s lane n).1 ∧ GoodC sh me m (sp_sheet S s lane n).2) := by
  have hFs := hF
  obtain ⟨z0, ⟨g0, g1, g2, g3, g4, g5, g6, g7⟩, ⟨w1, w2, w3, pp1, l1, b1, t1⟩, zs, zss⟩ := hF
  have hw1 := w1
  obtain ⟨s0, s1, s2, s3, s4, r0, r1, r2, r3, hP⟩ := w1
  have hn5 := hR.1.1.1
  have hn := hR.1.2.1
  refine CI.mk (L := [.ref 0, .int s, .int lane, .int n]) (by decide) (Nat.le_of_ble_eq_true rfl) rfl ?_
  have bad : ¬ (inR s 0 3 ∧ inR lane 0 2 ∧ n ≤ 24) → ∀ L4, Wa mX6_sheet (0, fun _ => 0) d 0 0 sh.length (PI sh (fun x m => x = (sp_sheet S s lane n).1 ∧ GoodC sh me m (sp_sheet S s lane n).2)) 20 L4 [] sh me 0 0 := by
    intro hb L4
    unfold sp_sheet
    rw [cif_f hb]
    refine wl_iconst (np := 21) (v := -1) dX6_sheet_20 rfl (rfl) ?_
    refine wi_ret dX6_sheet_21 rfl (rfl) (Nat.le_refl _) (Nat.le_refl _) ?_
    exact ⟨rfl, GoodC.same hFs hR⟩
  refine ld_i1 (np := 1) dX6_sheet_0 rfl ?_
  refine ciS_1 (np := 4) dX6_sheet_1 rfl lk_X6_261 (Nat.le_of_ble_eq_true rfl) (by omega) (Nat.le_refl _) (Nat.le_refl _) (c_isSheet _ (by omega)) (fun x_1 m_1 h_1 => ?_)
  obtain ⟨rfl, q_1⟩ := h_1
  have q_1 := q_1.symm
  subst q_1
  refine wl_if_eq (np := 7) (tg := 20) dX6_sheet_4 rfl rfl (fun c_4 => ?_) (fun c_4 => ?_)
  · exact bad (fun h => if0 c_4 h.1) _
  · refine ld_i2 (np := 8) dX6_sheet_7 rfl ?_
    refine ciS_1 (np := 11) dX6_sheet_8 rfl lk_X6_264 (Nat.le_of_ble_eq_true rfl) (by omega) (Nat.le_refl _) (Nat.le_refl _) (c_isLane _ (by omega)) (fun x_8 m_8 h_8 => ?_)
    obtain ⟨rfl, q_8⟩ := h_8
    have q_8 := q_8.symm
    subst q_8
    refine wl_if_eq (np := 14) (tg := 20) dX6_sheet_11 rfl rfl (fun c_11 => ?_) (fun c_11 => ?_)
    · exact bad (fun h => if0 c_11 h.2.1) _
    · refine ld_i3 (np := 15) dX6_sheet_14 rfl ?_
      refine wl_bipush (np := 17) (v := 24) dX6_sheet_15 rfl (by decide) ?_
      refine wl_icmp_le (np := 20) (tg := 22) dX6_sheet_17 rfl rfl (fun c_17 => ?_) (fun c_17 => ?_)
      · have hgood : inR s 0 3 ∧ inR lane 0 2 ∧ n ≤ 24 := ⟨if1 c_4, if1 c_11, c_17⟩
        obtain ⟨k, hk, rfl⟩ := nI_of2 (x := s) (M := 3) (n := 3) rfl (Int32.not_lt.mpr hgood.1.1) hgood.1.2
        obtain ⟨gs, gt⟩ := zss k (by omega)
        have gt0 := gt.1
        unfold sp_sheet
        rw [cif_t hgood, nI_clamp (by omega)]
        refine ld_i3 (np := 23) dX6_sheet_22 rfl ?_
        refine wl_if_ge (np := 26) (tg := 29) dX6_sheet_23 rfl rfl (fun c_23 => ?_) (fun c_23 => ?_)
        · rw [if_neg (Int32.not_lt.mpr c_23)]
          obtain ⟨nn, hnn, rfl⟩ := nI_of2 (x := n) (M := 24) (n := 24) rfl (Int32.not_lt.mpr c_23) c_17
          rw [nI_clamp (by omega)]
          refine ld_a0 (np := 30) dX6_sheet_29 rfl ?_
          refine wl_getr (np := 33) dX6_sheet_30 rfl fl_X6_52 rfl (by assumption) (by first | assumption | (rw [nI_clamp (by omega)]; assumption)) ?_
          refine ld_i1 (np := 34) dX6_sheet_33 rfl ?_
          refine wl_aaload (np := 35) dX6_sheet_34 rfl (by assumption) (by decide) (vp_in_nI (by omega) (by decide)) (by first | assumption | (rw [nI_clamp (by omega)]; assumption)) ?_
          refine ld_i2 (np := 36) dX6_sheet_35 rfl ?_
          refine ld_i3 (np := 37) dX6_sheet_36 rfl ?_
          refine cvV_2 (np := 40) dX6_sheet_37 rfl lk_X6_277 (by assumption) (Nat.le_of_ble_eq_true rfl) (by omega) (Nat.le_refl _) (Nat.le_refl _) (c_S_begin lane (nI nn) gt (by omega)) (fun m_37 h_37 => ?_)
          have q_37 := h_37.symm
          subst q_37
          refine ld_i3 (np := 41) dX6_sheet_40 rfl ?_
          refine wi_ret dX6_sheet_41 rfl (rfl) (Nat.le_refl _) (Nat.le_refl _) ?_
          exact ⟨rfl, GoodC.s hFs hR (onl_S_begin lane (nI nn)) (by omega) (rep_S_begin lane hnn)⟩
        · rw [if_pos (Int32.not_le.mp c_23)]
          refine wl_bipush (np := 28) (v := -14) dX6_sheet_26 rfl (by decide) ?_
          refine wi_ret dX6_sheet_28 rfl (rfl) (Nat.le_refl _) (Nat.le_refl _) ?_
          exact ⟨rfl, GoodC.same hFs hR⟩
      · exact bad (fun h => c_17 h.2.2) _
set_option maxHeartbeats 4000000 in
set_option maxRecDepth 100000 in
theorem c_dc_drop (s : Int32) (hF : FixC sh me) (hR : RepC me S) (hd : 2 ≤ d) : CI d mX6_drop sh [.ref 0, .int s] me (fun x m => x = (sp_drop S s).1 ∧ GoodC sh me m (sp_drop S s).2) := by
  have hFs := hF
  obtain ⟨z0, ⟨g0, g1, g2, g3, g4, g5, g6, g7⟩, ⟨w1, w2, w3, pp1, l1, b1, t1⟩, zs, zss⟩ := hF
  have hw1 := w1
  obtain ⟨s0, s1, s2, s3, s4, r0, r1, r2, r3, hP⟩ := w1
  have hn5 := hR.1.1.1
  have hn := hR.1.2.1
  refine CI.mk (L := [.ref 0, .int s, .float 0]) (by decide) (Nat.le_of_ble_eq_true rfl) rfl ?_
  refine ld_i1 (np := 1) dX6_drop_0 rfl ?_
  refine ciS_1 (np := 4) dX6_drop_1 rfl lk_X6_261 (Nat.le_of_ble_eq_true rfl) (by omega) (Nat.le_refl _) (Nat.le_refl _) (c_isSheet _ (by omega)) (fun x_1 m_1 h_1 => ?_)
  obtain ⟨rfl, q_1⟩ := h_1
  have q_1 := q_1.symm
  subst q_1
  refine wl_if_ne (np := 7) (tg := 9) dX6_drop_4 rfl rfl (fun c_4 => ?_) (fun c_4 => ?_)
  · have hgood := if1 c_4
    obtain ⟨k, hk, rfl⟩ := nI_of2 (x := s) (M := 3) (n := 3) rfl (Int32.not_lt.mpr hgood.1) hgood.2
    obtain ⟨gs, gt⟩ := zss k (by omega)
    have gt0 := gt.1
    have hrS := hR.2.2.2 k (by omega)
    unfold sp_drop
    rw [cif_t hgood, nI_clamp (by omega)]
    refine ld_a0 (np := 10) dX6_drop_9 rfl ?_
    refine wl_getr (np := 13) dX6_drop_10 rfl fl_X6_52 rfl (by assumption) (by first | assumption | (rw [nI_clamp (by omega)]; assumption)) ?_
    refine ld_i1 (np := 14) dX6_drop_13 rfl ?_
    refine wl_aaload (np := 15) dX6_drop_14 rfl (by assumption) (by decide) (vp_in_nI (by omega) (by decide)) (by first | assumption | (rw [nI_clamp (by omega)]; assumption)) ?_
    refine st_a2 (np := 16) dX6_drop_15 rfl (by decide) rfl ?_
    refine ld_a2 (np := 17) dX6_drop_16 rfl ?_
    refine wl_geti (np := 20) dX6_drop_17 rfl fl_X6_280 (by decide) (by assumption) ?_
    refine wl_if_ne (np := 23) (tg := 26) dX6_drop_20 rfl rfl (fun c_20 => ?_) (fun c_20 => ?_)
    · match hT : S.2.2.2 k, hrS with
      | none, hrS => exact absurd hrS c_20
      | some (l, L, f), hrS =>
        obtain ⟨e1, e2, e3, e4, e5⟩ := hrS
        refine ld_a2 (np := 27) dX6_drop_26 rfl ?_
        refine wl_iconst (np := 28) (v := 0) dX6_drop_27 rfl (rfl) ?_
        refine wl_putz (np := 31) dX6_drop_28 rfl fl_X6_280 nf_3_1 rfl (by decide) (by assumption) ?_
        refine ld_a2 (np := 32) dX6_drop_31 rfl ?_
        refine wl_geti (np := 35) dX6_drop_32 rfl fl_X6_283 (by decide) (by assumption) ?_
        refine wi_ret dX6_drop_35 rfl (rfl) (Nat.le_refl _) (Nat.le_refl _) ?_
        rw [gI_uI_nb (by omega)]
        refine ⟨e3, GoodC.s hFs hR ⟨rfl, fun a ha => gI_uI_ne (by omega)⟩ (by omega) ?_⟩
        exact gI_uI_self _ _ _ _
    · match hT : S.2.2.2 k, hrS with
      | none, hrS =>
        refine wl_bipush (np := 25) (v := -11) dX6_drop_23 rfl (by decide) ?_
        refine wi_ret dX6_drop_25 rfl (rfl) (Nat.le_refl _) (Nat.le_refl _) ?_
        exact ⟨rfl, GoodC.same hFs hR⟩
      | some (l, L, f), hrS =>
        rw [hrS.1] at c_20
        exact absurd c_20 (by decide)
  · unfold sp_drop
    rw [cif_f (if0 c_4)]
    refine wl_iconst (np := 8) (v := -1) dX6_drop_7 rfl (rfl) ?_
    refine wi_ret dX6_drop_8 rfl (rfl) (Nat.le_refl _) (Nat.le_refl _) ?_
    exact ⟨rfl, GoodC.same hFs hR⟩
set_option maxHeartbeats 4000000 in
set_option maxRecDepth 100000 in
theorem c_dc_item (s lane i v : Int32) (hF : FixC sh me) (hR : RepC me S) (hd : 2 ≤ d) : CI d mX6_item sh [.ref 0, .int s, .int lane, .int i, .int v] me (fun x m => x = (sp_item S s lane i v).1 ∧ GoodC sh me m (sp_item S s lane i v).2) := by
  have hFs := hF
  obtain ⟨z0, ⟨g0, g1, g2, g3, g4, g5, g6, g7⟩, ⟨w1, w2, w3, pp1, l1, b1, t1⟩, zs, zss⟩ := hF
  have hw1 := w1
  obtain ⟨s0, s1, s2, s3, s4, r0, r1, r2, r3, hP⟩ := w1
  have hn5 := hR.1.1.1
  have hn := hR.1.2.1
  refine CI.mk (L := [.ref 0, .int s, .int lane, .int i, .int v, .float 0, .float 0]) (by decide) (Nat.le_of_ble_eq_true rfl) rfl ?_
  have bad : ¬ (inR s 0 3 ∧ inR lane 0 2) → ∀ L4, Wa mX6_item (0, fun _ => 0) d 0 0 sh.length (PI sh (fun x m => x = (sp_item S s lane i v).1 ∧ GoodC sh me m (sp_item S s lane i v).2)) 14 L4 [] sh me 0 0 := by
    intro hb L4
    unfold sp_item
    rw [cif_f hb]
    refine wl_iconst (np := 15) (v := -1) dX6_item_14 rfl (rfl) ?_
    refine wi_ret dX6_item_15 rfl (rfl) (Nat.le_refl _) (Nat.le_refl _) ?_
    exact ⟨rfl, GoodC.same hFs hR⟩
  refine ld_i1 (np := 1) dX6_item_0 rfl ?_
  refine ciS_1 (np := 4) dX6_item_1 rfl lk_X6_261 (Nat.le_of_ble_eq_true rfl) (by omega) (Nat.le_refl _) (Nat.le_refl _) (c_isSheet _ (by omega)) (fun x_1 m_1 h_1 => ?_)
  obtain ⟨rfl, q_1⟩ := h_1
  have q_1 := q_1.symm
  subst q_1
  refine wl_if_eq (np := 7) (tg := 14) dX6_item_4 rfl rfl (fun c_4 => ?_) (fun c_4 => ?_)
  · exact bad (fun h => if0 c_4 h.1) _
  · refine ld_i2 (np := 8) dX6_item_7 rfl ?_
    refine ciS_1 (np := 11) dX6_item_8 rfl lk_X6_264 (Nat.le_of_ble_eq_true rfl) (by omega) (Nat.le_refl _) (Nat.le_refl _) (c_isLane _ (by omega)) (fun x_8 m_8 h_8 => ?_)
    obtain ⟨rfl, q_8⟩ := h_8
    have q_8 := q_8.symm
    subst q_8
    refine wl_if_ne (np := 14) (tg := 16) dX6_item_11 rfl rfl (fun c_11 => ?_) (fun c_11 => ?_)
    · have hgood : inR s 0 3 ∧ inR lane 0 2 := ⟨if1 c_4, if1 c_11⟩
      obtain ⟨k, hk, rfl⟩ := nI_of2 (x := s) (M := 3) (n := 3) rfl (Int32.not_lt.mpr hgood.1.1) hgood.1.2
      obtain ⟨gs, gt⟩ := zss k (by omega)
      have hrS := hR.2.2.2 k (by omega)
      unfold sp_item
      rw [cif_t hgood, nI_clamp (by omega)]
      have gt0 := gt.1
      have gt1 := gt.2.1
      have gt2 := gt.2.2
      refine ld_a0 (np := 17) dX6_item_16 rfl ?_
      refine wl_getr (np := 20) dX6_item_17 rfl fl_X6_52 rfl (by assumption) (by first | assumption | (rw [nI_clamp (by omega)]; assumption)) ?_
      refine ld_i1 (np := 21) dX6_item_20 rfl ?_
      refine wl_aaload (np := 22) dX6_item_21 rfl (by assumption) (by decide) (vp_in_nI (by omega) (by decide)) (by first | assumption | (rw [nI_clamp (by omega)]; assumption)) ?_
      refine st_a5 (np := 24) dX6_item_22 rfl (by decide) rfl ?_
      refine ld_a5 (np := 26) dX6_item_24 rfl ?_
      refine ld_i2 (np := 27) dX6_item_26 rfl ?_
      refine ld_i3 (np := 28) dX6_item_27 rfl ?_
      refine wl_iconst (np := 29) (v := 1) dX6_item_28 rfl (rfl) ?_
      refine ciV_3 (np := 32) dX6_item_29 rfl lk_X6_267 (by assumption) (Nat.le_of_ble_eq_true rfl) (by omega) (Nat.le_refl _) (Nat.le_refl _) (c_refusal lane i 1 gt hrS (by omega)) (fun x_29 m_29 h_29 => ?_)
      obtain ⟨h29, q29⟩ := h_29
      have q29 := q29.symm
      subst q29
      have hx := refR_eq h29
      refine st_i6 (np := 34) dX6_item_32 rfl (by decide) rfl ?_
      refine ld_i6 (np := 36) dX6_item_34 rfl ?_
      refine wl_if_eq (np := 39) (tg := 42) dX6_item_36 rfl rfl (fun c_36 => ?_) (fun c_36 => ?_)
      · rw [c_36] at hx
        rw [if_pos hx.symm]
        rw [c_36] at h29
        match hT : S.2.2.2 k, hrS, h29 with
        | none, _, h29 => exact absurd (show (0 : Int32) = -11 from h29) (by decide)
        | some (l, L, f), hrS, h29 =>
          obtain ⟨e1, e2, e3, e4, e5⟩ := hrS
          rcases h29 with ⟨-, h⟩ | ⟨hl, ⟨ia, ib, rfl, hib, hab⟩, -⟩ | ⟨-, -, h⟩
          · exact absurd h (by decide)
          · rw [show (1 : Int32) = nI 1 from rfl, nI_eq (by omega) (by omega)] at hib
            rw [nI_clamp (by omega)]
            refine ld_a5 (np := 44) dX6_item_42 rfl ?_
            refine wl_getr (np := 47) dX6_item_44 rfl fl_X6_271 rfl (by assumption) (by first | assumption | (rw [nI_clamp (by omega)]; assumption)) ?_
            refine ld_i3 (np := 48) dX6_item_47 rfl ?_
            refine ld_i2 (np := 49) dX6_item_48 rfl ?_
            refine ld_i4 (np := 51) dX6_item_49 rfl ?_
            refine ciS_2 (np := 54) dX6_item_51 rfl lk_X6_284 (Nat.le_of_ble_eq_true rfl) (by omega) (Nat.le_refl _) (Nat.le_refl _) (c_narrowed _ _) (fun x_51 m_51 h_51 => ?_)
            obtain ⟨rfl, q_51⟩ := h_51
            have q_51 := q_51.symm
            subst q_51
            refine wl_iastore (np := 55) dX6_item_54 rfl (inA_n gt1 (by omega) (by decide)) ?_
            refine wl_iconst (np := 56) (v := 1) dX6_item_55 rfl (rfl) ?_
            refine wi_ret dX6_item_56 rfl (rfl) (Nat.le_refl _) (Nat.le_refl _) ?_
            rw [nI_clamp (by omega)]
            refine ⟨rfl, GoodC.s hFs hR ⟨rfl, fun a ha => gI_uI_ne (by omega)⟩ (by omega) ?_⟩
            have ne : ∀ y, gI (uI me (128 + 2 * k + 1) ia (narS lane v)) (128 + 2 * k) y = gI me (128 + 2 * k) y := fun y => congrFun (gI_uI_ne (by omega)) y
            refine ⟨(ne _).trans e1, (ne _).trans e2, (ne _).trans e3, e4, fun y hy => ?_⟩
            rw [gI_uI]
            dsimp only
            by_cases hya : y = ia
            · rw [if_pos ⟨rfl, hya⟩, if_pos hya]
            · rw [if_neg (fun q => hya q.2), if_neg hya]
              exact e5 y hy
          · exact absurd h (by decide)
      · rw [hx] at c_36
        rw [if_neg c_36]
        refine ld_i6 (np := 41) dX6_item_39 rfl ?_
        refine wi_ret dX6_item_41 rfl (rfl) (Nat.le_refl _) (Nat.le_refl _) ?_
        exact ⟨hx, GoodC.same hFs hR⟩
    · exact bad (fun h => if0 c_11 h.2) _
set_option maxHeartbeats 4000000 in
set_option maxRecDepth 100000 in
theorem c_dc_copy (a i b j n : Int32) (hF : FixC sh me) (hR : RepC me S) (hd : 2 ≤ d) : CI d mX6_copy sh [.ref 0, .int a, .int i, .int b, .int j, .int n] me (fun x m => x = (sp_copy S a i b j n).1 ∧ GoodC sh me m (sp_copy S a i b j n).2) := by
  have hFs := hF
  obtain ⟨z0, ⟨g0, g1, g2, g3, g4, g5, g6, g7⟩, ⟨w1, w2, w3, pp1, l1, b1, t1⟩, zs, zss⟩ := hF
  have hw1 := w1
  obtain ⟨s0, s1, s2, s3, s4, r0, r1, r2, r3, hP⟩ := w1
  have hn5 := hR.1.1.1
  have hn := hR.1.2.1
  refine CI.mk (L := [.ref 0, .int a, .int i, .int b, .int j, .int n, .float 0, .float 0]) (by decide) (Nat.le_of_ble_eq_true rfl) rfl ?_
  have bad : ¬ (inR a 0 3 ∧ inR b 0 3) → ∀ L4, Wa mX6_copy (0, fun _ => 0) d 0 0 sh.length (PI sh (fun x m => x = (sp_copy S a i b j n).1 ∧ GoodC sh me m (sp_copy S a i b j n).2)) 14 L4 [] sh me 0 0 := by
    intro hb L4
    unfold sp_copy
    rw [cif_f hb]
    refine wl_iconst (np := 15) (v := -1) dX6_copy_14 rfl (rfl) ?_
    refine wi_ret dX6_copy_15 rfl (rfl) (Nat.le_refl _) (Nat.le_refl _) ?_
    exact ⟨rfl, GoodC.same hFs hR⟩
  refine ld_i1 (np := 1) dX6_copy_0 rfl ?_
  refine ciS_1 (np := 4) dX6_copy_1 rfl lk_X6_261 (Nat.le_of_ble_eq_true rfl) (by omega) (Nat.le_refl _) (Nat.le_refl _) (c_isSheet _ (by omega)) (fun x_1 m_1 h_1 => ?_)
  obtain ⟨rfl, q_1⟩ := h_1
  have q_1 := q_1.symm
  subst q_1
  refine wl_if_eq (np := 7) (tg := 14) dX6_copy_4 rfl rfl (fun c_4 => ?_) (fun c_4 => ?_)
  · exact bad (fun h => if0 c_4 h.1) _
  · refine ld_i3 (np := 8) dX6_copy_7 rfl ?_
    refine ciS_1 (np := 11) dX6_copy_8 rfl lk_X6_261 (Nat.le_of_ble_eq_true rfl) (by omega) (Nat.le_refl _) (Nat.le_refl _) (c_isSheet _ (by omega)) (fun x_8 m_8 h_8 => ?_)
    obtain ⟨rfl, q_8⟩ := h_8
    have q_8 := q_8.symm
    subst q_8
    refine wl_if_ne (np := 14) (tg := 16) dX6_copy_11 rfl rfl (fun c_11 => ?_) (fun c_11 => ?_)
    · have hgood : inR a 0 3 ∧ inR b 0 3 := ⟨if1 c_4, if1 c_11⟩
      obtain ⟨ka, hka, rfl⟩ := nI_of2 (x := a) (M := 3) (n := 3) rfl (Int32.not_lt.mpr hgood.1.1) hgood.1.2
      obtain ⟨kb, hkb, rfl⟩ := nI_of2 (x := b) (M := 3) (n := 3) rfl (Int32.not_lt.mpr hgood.2.1) hgood.2.2
      obtain ⟨gs, gt⟩ := zss ka (by omega)
      obtain ⟨gu, gv⟩ := zss kb (by omega)
      have hrA := hR.2.2.2 ka (by omega)
      have hrB := hR.2.2.2 kb (by omega)
      have gt0 := gt.1
      have gt1 := gt.2.1
      have gt2 := gt.2.2
      have gv0 := gv.1
      have gv1 := gv.2.1
      have gv2 := gv.2.2
      unfold sp_copy
      rw [cif_t hgood, nI_clamp (by omega), nI_clamp (by omega)]
      match hTA : S.2.2.2 ka, hTB : S.2.2.2 kb, hrA, hrB with
      | none, TB, hrA, hrB =>
        have e : cpyS S i (nI kb) j n none TB = (-11, S) := by cases TB <;> rfl
        rw [e]
        refine ld_a0 (np := 17) dX6_copy_16 rfl ?_
        refine wl_getr (np := 20) dX6_copy_17 rfl fl_X6_52 rfl (by assumption) (by first | assumption | (rw [nI_clamp (by omega)]; assumption)) ?_
        refine ld_i1 (np := 21) dX6_copy_20 rfl ?_
        refine wl_aaload (np := 22) dX6_copy_21 rfl (by assumption) (by decide) (vp_in_nI (by omega) (by decide)) (by first | assumption | (rw [nI_clamp (by omega)]; assumption)) ?_
        refine st_a6 (np := 24) dX6_copy_22 rfl (by decide) rfl ?_
        refine ld_a0 (np := 25) dX6_copy_24 rfl ?_
        refine wl_getr (np := 28) dX6_copy_25 rfl fl_X6_52 rfl (by assumption) (by first | assumption | (rw [nI_clamp (by omega)]; assumption)) ?_
        refine ld_i3 (np := 29) dX6_copy_28 rfl ?_
        refine wl_aaload (np := 30) dX6_copy_29 rfl (by assumption) (by decide) (vp_in_nI (by omega) (by decide)) (by first | assumption | (rw [nI_clamp (by omega)]; assumption)) ?_
        refine st_a7 (np := 32) dX6_copy_30 rfl (by decide) rfl ?_
        refine ld_a6 (np := 34) dX6_copy_32 rfl ?_
        refine wl_geti (np := 37) dX6_copy_34 rfl fl_X6_280 (by decide) (by assumption) ?_
        refine wl_if_eq (np := 40) (tg := 48) dX6_copy_37 rfl rfl (fun c_37 => ?_) (fun c_37 => ?_)
        · refine wl_bipush (np := 50) (v := -11) dX6_copy_48 rfl (by decide) ?_
          refine wi_ret dX6_copy_50 rfl (rfl) (Nat.le_refl _) (Nat.le_refl _) ?_
          exact ⟨rfl, GoodC.same hFs hR⟩
        · exact absurd hrA c_37
      | some (l, L, f), none, hrA, hrB =>
        obtain ⟨e1, e2, e3, e4, e5⟩ := hrA
        have e : cpyS S i (nI kb) j n (some (l, L, f)) none = (-11, S) := rfl
        rw [e]
        refine ld_a0 (np := 17) dX6_copy_16 rfl ?_
        refine wl_getr (np := 20) dX6_copy_17 rfl fl_X6_52 rfl (by assumption) (by first | assumption | (rw [nI_clamp (by omega)]; assumption)) ?_
        refine ld_i1 (np := 21) dX6_copy_20 rfl ?_
        refine wl_aaload (np := 22) dX6_copy_21 rfl (by assumption) (by decide) (vp_in_nI (by omega) (by decide)) (by first | assumption | (rw [nI_clamp (by omega)]; assumption)) ?_
        refine st_a6 (np := 24) dX6_copy_22 rfl (by decide) rfl ?_
        refine ld_a0 (np := 25) dX6_copy_24 rfl ?_
        refine wl_getr (np := 28) dX6_copy_25 rfl fl_X6_52 rfl (by assumption) (by first | assumption | (rw [nI_clamp (by omega)]; assumption)) ?_
        refine ld_i3 (np := 29) dX6_copy_28 rfl ?_
        refine wl_aaload (np := 30) dX6_copy_29 rfl (by assumption) (by decide) (vp_in_nI (by omega) (by decide)) (by first | assumption | (rw [nI_clamp (by omega)]; assumption)) ?_
        refine st_a7 (np := 32) dX6_copy_30 rfl (by decide) rfl ?_
        refine ld_a6 (np := 34) dX6_copy_32 rfl ?_
        refine wl_geti (np := 37) dX6_copy_34 rfl fl_X6_280 (by decide) (by assumption) ?_
        refine wl_if_eq (np := 40) (tg := 48) dX6_copy_37 rfl rfl (fun c_37 => ?_) (fun c_37 => ?_)
        · rw [e1] at c_37
          exact absurd c_37 (by decide)
        · refine ld_a7 (np := 42) dX6_copy_40 rfl ?_
          refine wl_geti (np := 45) dX6_copy_42 rfl fl_X6_280 (by decide) (by assumption) ?_
          refine wl_if_ne (np := 48) (tg := 51) dX6_copy_45 rfl rfl (fun c_45 => ?_) (fun c_45 => ?_)
          · exact absurd hrB c_45
          · refine wl_bipush (np := 50) (v := -11) dX6_copy_48 rfl (by decide) ?_
            refine wi_ret dX6_copy_50 rfl (rfl) (Nat.le_refl _) (Nat.le_refl _) ?_
            exact ⟨rfl, GoodC.same hFs hR⟩
      | some (l, L, f), some (l2, L2, f2), hrA, hrB =>
        obtain ⟨e1, e2, e3, e4, e5⟩ := hrA
        obtain ⟨u1, u2, u3, u4, u5⟩ := hrB
        have e : cpyS S i (nI kb) j n (some (l, L, f)) (some (l2, L2, f2)) = if l = l2 then cif (inS L i n ∧ inS L2 j n) (n, setSh S (nI kb).toNatClampNeg (some (l2, L2, fun x => if j.toNatClampNeg ≤ x ∧ x < j.toNatClampNeg + n.toNatClampNeg then f (i.toNatClampNeg + (x - j.toNatClampNeg)) else f2 x))) (-13, S) else (-12, S) := rfl
        rw [e, nI_clamp (by omega)]
        refine ld_a0 (np := 17) dX6_copy_16 rfl ?_
        refine wl_getr (np := 20) dX6_copy_17 rfl fl_X6_52 rfl (by assumption) (by first | assumption | (rw [nI_clamp (by omega)]; assumption)) ?_
        refine ld_i1 (np := 21) dX6_copy_20 rfl ?_
        refine wl_aaload (np := 22) dX6_copy_21 rfl (by assumption) (by decide) (vp_in_nI (by omega) (by decide)) (by first | assumption | (rw [nI_clamp (by omega)]; assumption)) ?_
        refine st_a6 (np := 24) dX6_copy_22 rfl (by decide) rfl ?_
        refine ld_a0 (np := 25) dX6_copy_24 rfl ?_
        refine wl_getr (np := 28) dX6_copy_25 rfl fl_X6_52 rfl (by assumption) (by first | assumption | (rw [nI_clamp (by omega)]; assumption)) ?_
        refine ld_i3 (np := 29) dX6_copy_28 rfl ?_
        refine wl_aaload (np := 30) dX6_copy_29 rfl (by assumption) (by decide) (vp_in_nI (by omega) (by decide)) (by first | assumption | (rw [nI_clamp (by omega)]; assumption)) ?_
        refine st_a7 (np := 32) dX6_copy_30 rfl (by decide) rfl ?_
        refine ld_a6 (np := 34) dX6_copy_32 rfl ?_
        refine wl_geti (np := 37) dX6_copy_34 rfl fl_X6_280 (by decide) (by assumption) ?_
        refine wl_if_eq (np := 40) (tg := 48) dX6_copy_37 rfl rfl (fun c_37 => ?_) (fun c_37 => ?_)
        · rw [e1] at c_37
          exact absurd c_37 (by decide)
        · refine ld_a7 (np := 42) dX6_copy_40 rfl ?_
          refine wl_geti (np := 45) dX6_copy_42 rfl fl_X6_280 (by decide) (by assumption) ?_
          refine wl_if_ne (np := 48) (tg := 51) dX6_copy_45 rfl rfl (fun c_45 => ?_) (fun c_45 => ?_)
          · refine ld_a6 (np := 53) dX6_copy_51 rfl ?_
            refine wl_geti (np := 56) dX6_copy_53 rfl fl_X6_287 (by decide) (by assumption) ?_
            refine ld_a7 (np := 58) dX6_copy_56 rfl ?_
            refine wl_geti (np := 61) dX6_copy_58 rfl fl_X6_287 (by decide) (by assumption) ?_
            refine wl_icmp_eq (np := 64) (tg := 67) dX6_copy_61 rfl rfl (fun c_61 => ?_) (fun c_61 => ?_)
            · rw [e2, u2] at c_61
              rw [if_pos c_61]
              have bad2 : ¬ (inS L i n ∧ inS L2 j n) → ∀ L4, Wa mX6_copy (0, fun _ => 0) d 0 0 sh.length (PI sh (fun x m => x = (cif (inS L i n ∧ inS L2 j n) (n, setSh S kb (some (l2, L2, fun x => if j.toNatClampNeg ≤ x ∧ x < j.toNatClampNeg + n.toNatClampNeg then f (i.toNatClampNeg + (x - j.toNatClampNeg)) else f2 x))) (-13, S)).1 ∧ GoodC sh me m (cif (inS L i n ∧ inS L2 j n) (n, setSh S kb (some (l2, L2, fun x => if j.toNatClampNeg ≤ x ∧ x < j.toNatClampNeg + n.toNatClampNeg then f (i.toNatClampNeg + (x - j.toNatClampNeg)) else f2 x))) (-13, S)).2)) 90 L4 [] sh me 0 0 := by
                intro hb L4
                rw [cif_f hb]
                refine wl_bipush (np := 92) (v := -13) dX6_copy_90 rfl (by decide) ?_
                refine wi_ret dX6_copy_92 rfl (rfl) (Nat.le_refl _) (Nat.le_refl _) ?_
                exact ⟨rfl, GoodC.same hFs hR⟩
              refine ld_a6 (np := 69) dX6_copy_67 rfl ?_
              refine ld_i2 (np := 70) dX6_copy_69 rfl ?_
              refine ld_i5 (np := 72) dX6_copy_70 rfl ?_
              refine ciV_2 (np := 75) dX6_copy_72 rfl lk_X6_290 (by assumption) (Nat.le_of_ble_eq_true rfl) (by omega) (Nat.le_refl _) (Nat.le_refl _) (c_hasItems i n gt e3 e4) (fun x_72 m_72 h_72 => ?_)
              obtain ⟨h72, q72⟩ := h_72
              have q72 := q72.symm
              subst q72
              refine wl_if_eq (np := 78) (tg := 90) dX6_copy_75 rfl rfl (fun c_75 => ?_) (fun c_75 => ?_)
              · exact bad2 (fun h => or0 h72 c_75 h.1) _
              · refine ld_a7 (np := 80) dX6_copy_78 rfl ?_
                refine ld_i4 (np := 82) dX6_copy_80 rfl ?_
                refine ld_i5 (np := 84) dX6_copy_82 rfl ?_
                refine ciV_2 (np := 87) dX6_copy_84 rfl lk_X6_290 (by assumption) (Nat.le_of_ble_eq_true rfl) (by omega) (Nat.le_refl _) (Nat.le_refl _) (c_hasItems j n gv u3 u4) (fun x_84 m_84 h_84 => ?_)
                obtain ⟨h84, q84⟩ := h_84
                have q84 := q84.symm
                subst q84
                refine wl_if_ne (np := 90) (tg := 93) dX6_copy_87 rfl rfl (fun c_87 => ?_) (fun c_87 => ?_)
                · rw [cif_t ⟨or1 h72 c_75, or1 h84 c_87⟩]
                  obtain ⟨ia, ib, rfl, rfl, hab⟩ := or1 h72 c_75
                  obtain ⟨ja, jb, rfl, hjb, hab2⟩ := or1 h84 c_87
                  rw [nI_eq (by omega) (by omega)] at hjb
                  subst hjb
                  rw [nI_clamp (by omega), nI_clamp (by omega), nI_clamp (by omega)]
                  refine ld_a6 (np := 95) dX6_copy_93 rfl ?_
                  refine wl_getr (np := 98) dX6_copy_95 rfl fl_X6_271 rfl (by assumption) (by first | assumption | (rw [nI_clamp (by omega)]; assumption)) ?_
                  refine ld_i2 (np := 99) dX6_copy_98 rfl ?_
                  refine ld_a7 (np := 101) dX6_copy_99 rfl ?_
                  refine wl_getr (np := 104) dX6_copy_101 rfl fl_X6_271 rfl (by assumption) (by first | assumption | (rw [nI_clamp (by omega)]; assumption)) ?_
                  refine ld_i4 (np := 106) dX6_copy_104 rfl ?_
                  refine ld_i5 (np := 108) dX6_copy_106 rfl ?_
                  refine wl_copy (np := 111) dX6_copy_108 rfl lk_X6_293 (Nat.le_of_ble_eq_true rfl) (by omega) (by assumption) (by assumption) (Int32.not_lt.mpr (nI_pos' (by omega))) (Int32.not_lt.mpr (nI_pos' (by omega))) (Int32.not_lt.mpr (nI_pos' (by omega))) (by rw [nI_clamp (by omega), nI_clamp (by omega)]; omega) (by rw [nI_clamp (by omega), nI_clamp (by omega)]; omega) ?_
                  refine ld_i5 (np := 113) dX6_copy_111 rfl ?_
                  refine wi_ret dX6_copy_113 rfl (rfl) (Nat.le_refl _) (Nat.le_refl _) ?_
                  rw [nI_clamp (by omega), nI_clamp (by omega), nI_clamp (by omega)]
                  refine ⟨rfl, GoodC.s hFs hR ⟨rfl, fun x hx => funext fun y => ?_⟩ (by omega) ?_⟩
                  · show gI (uA _ _ _) x y = gI me x y
                    rw [gI_uA, if_neg (by omega)]
                  · refine ⟨?_, ?_, ?_, u4, fun y hy => ?_⟩
                    · rw [gI_uA, if_neg (by omega)]; exact u1
                    · rw [gI_uA, if_neg (by omega)]; exact u2
                    · rw [gI_uA, if_neg (by omega)]; exact u3
                    · rw [gI_uA, if_pos rfl]
                      unfold va_cpy
                      dsimp only
                      by_cases hjy : ja ≤ y ∧ y < ja + ib
                      · rw [if_pos hjy, if_pos hjy]
                        exact e5 _ (by omega)
                      · rw [if_neg hjy, if_neg hjy]
                        exact u5 y hy
                · exact bad2 (fun h => or0 h84 c_87 h.2) _
            · rw [e2, u2] at c_61
              rw [if_neg c_61]
              refine wl_bipush (np := 66) (v := -12) dX6_copy_64 rfl (by decide) ?_
              refine wi_ret dX6_copy_66 rfl (rfl) (Nat.le_refl _) (Nat.le_refl _) ?_
              exact ⟨rfl, GoodC.same hFs hR⟩
          · rw [u1] at c_45
            exact absurd c_45 (by decide)
    · exact bad (fun h => if0 c_11 h.2) _
end DC8
