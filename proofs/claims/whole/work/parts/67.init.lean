/-! ===== rules of making, with the number of what is made ===== -/
theorem apL {sh l : List Shp} {q : Nat} {s : Shp} (h : sh[q]? = some s) : (sh ++ l)[q]? = some s := by
  rw [List.getElem?_append_left (List.getElem?_eq_some_iff.mp h).1]
  exact h
theorem apE {sh l : List Shp} {n : Nat} {s : Shp} (h : sh.length = n) : (sh ++ s :: l)[n]? = some s := by
  subst h
  simp
theorem Zr.up {me : Mem} {n n' : Nat} (h : Zr me n) (hn : n ≤ n') : Zr me n' := ⟨fun a ha => h.1 a (by omega), fun a b c hc => Nat.lt_of_lt_of_le (h.2 a b c hc) hn⟩
theorem Zr.ref {me : Mem} {q j b n : Nat} (h : Zr me n) (hq : q < n) (hb : b < n) : Zr (uR me q j (some b)) n := by
  refine ⟨fun a ha => ⟨(h.1 a ha).1, ?_⟩, fun a x c hc => ?_⟩
  · show (if a = q then va_up (gR me q) j (some b) else me.2 a) = _
    rw [if_neg (by omega)]
    exact (h.1 a ha).2
  · rw [gR_uR] at hc
    split at hc
    · cases hc
      exact hb
    · exact h.2 a x c hc
theorem Zr.int {me : Mem} {q j n : Nat} {x : Int32} (h : Zr me n) (hq : q < n) : Zr (uI me q j x) n := by
  refine ⟨fun a ha => ⟨?_, (h.1 a ha).2⟩, h.2⟩
  show (if a = q then upd (gI me q) j x else me.1 a) = _
  rw [if_neg (by omega)]
  exact (h.1 a ha).1
/-- N rows behind the one at n, which leads to them -/
def muM (me : Mem) (n N : Nat) : Mem := (me.1, fun a => if a = n then (fun j => if j < N then some (n + 1 + j) else none) else me.2 a)
theorem gR_mu {me : Mem} {n N a b : Nat} : gR (muM me n N) a b = if a = n then (if b < N then some (n + 1 + b) else none) else gR me a b := by
  unfold gR muM
  dsimp only
  split <;> rfl
theorem Zr.mu {me : Mem} {n N : Nat} (h : Zr me n) : Zr (muM me n N) (n + 1 + N) := by
  refine ⟨fun a ha => ⟨(h.1 a (by omega)).1, ?_⟩, fun a x c hc => ?_⟩
  · show (if a = n then _ else me.2 a) = _
    rw [if_neg (by omega)]
    exact (h.1 a (by omega)).2
  · rw [gR_mu] at hc
    split at hc
    · split at hc
      · cases hc
        omega
      · cases hc
    · have := h.2 a x c hc
      omega
section MK2
variable {M : MR} {sx : Scr} {d mc ms n0 : Nat} {Q : Post} {pc np tg : Nat} {L st : List Value} {sh : List Shp} {me : Mem} {cs sl : Nat}
theorem Wa.up {cs' sl' : Nat} (h1 : cs ≤ cs') (h2 : sl ≤ sl') (k : Wa M sx d mc ms n0 Q pc L st sh me cs' sl') : Wa M sx d mc ms n0 Q pc L st sh me cs sl := fun l p e R s m args below meth c D cA adr0 A Z C adr H locs ls he hP hD hS hL => W.widen h1 h2 (k l p e R s m args below meth c D cA adr0 A Z C adr H locs ls he hP hD hS hL)
theorem wl_newL {idx ci n F : Nat} (hd : decode M.2.1 pc = .ok (.new idx, 3)) (hn : pc + 3 = np) (hl : NLk M.1.cls idx ci) (hF : fn ci = F) (hlen : sh.length = n) (hz : Zr me n) (h0 : n0 ≤ n) (hb : n < 999999) (hL : Rfs n L) (hst : Rfs n st) (hcs : cs + 1 ≤ mc) (hsl : sl + F ≤ ms)
    (k : Wa M sx d mc ms n0 Q np L (.ref n :: st) (sh ++ [.inl ci]) me (cs + 1) (sl + F)) : Wa M sx d mc ms n0 Q pc L st sh me cs sl := by
  subst hlen
  subst hF
  exact wl_new hd hn hl hz h0 hb hL hst hcs hsl k
theorem wl_newiL {N n : Nat} {v : Int32} (hd : decode M.2.1 pc = .ok (.newarray .int, 2)) (hn : pc + 2 = np) (hv : v = nI N) (hN : N ≤ 1000) (hlen : sh.length = n) (hz : Zr me n) (h0 : n0 ≤ n) (hb : n < 999999) (hL : Rfs n L) (hst : Rfs n st) (hcs : cs + 1 ≤ mc) (hsl : sl + N ≤ ms)
    (k : Wa M sx d mc ms n0 Q np L (.ref n :: st) (sh ++ [.inr (0, N)]) me (cs + 1) (sl + N)) : Wa M sx d mc ms n0 Q pc L (.int v :: st) sh me cs sl := by
  subst hlen
  exact wl_newi hd hn hv hN wac_int hz h0 hb hL hst hcs hsl k
theorem wl_newqL {N n t idx : Nat} {C0 : String} {v : Int32} (hd : decode M.2.1 pc = .ok (.anewarray idx, 3)) (hn : pc + 3 = np) (hv : v = nI N) (hN : N ≤ 1000) (hT : ∀ cA : Nat → ClassId, (tysC cA)[t + 1]? = some (cA (t + 1), .object C0)) (hw : Cond.classLink M.1.cls idx C0 ∈ WS) (ho : Cond.arrayOver (.object C0) ∈ lw_tbl) (hlen : sh.length = n) (hz : Zr me n) (h0 : n0 ≤ n) (hb : n < 999999) (hL : Rfs n L) (hst : Rfs n st) (hcs : cs + 1 ≤ mc) (hsl : sl + N ≤ ms)
    (k : Wa M sx d mc ms n0 Q np L (.ref n :: st) (sh ++ [.inr (t + 1, N)]) me (cs + 1) (sl + N)) : Wa M sx d mc ms n0 Q pc L (.int v :: st) sh me cs sl := by
  subst hlen
  exact wl_newq hd hn hv hN hT hw ho hz h0 hb hL hst hcs hsl k
theorem wl_aastoreN {a b n t ci j : Nat} {r : vw_C} {i : Int32} (hd : decode M.2.1 pc = .ok (.aastore, 1)) (hn : pc + 1 = np) (hs : sh[a]? = some (.inr (t + 1, n))) (hT : ∀ cA : Nat → ClassId, (tysC cA)[t + 1]? = some (cA (t + 1), .object r.1)) (hb : sh[b]? = some (.inl ci)) (hc : vwCl[ci]? = some r) (hi : i = nI j) (hj : j < n) (h31 : n < 2 ^ 31)
    (k : Wa M sx d mc ms n0 Q np L st sh (uR me a j (some b)) cs sl) : Wa M sx d mc ms n0 Q pc L (.ref b :: .int i :: .ref a :: st) sh me cs sl := by
  subst hi
  refine wl_aastore hd hn hs hT hb hc (vp_in_nI hj h31) ?_
  rw [nI_clamp (by omega)]
  exact k
theorem wl_callI {idx n n2 b mc' ms' : Nat} {M' : MR} {sh' : List Shp} {me' : Mem} (hd : decode M.2.1 pc = .ok (.invokespecial idx, 3)) (hn : pc + 3 = np) (hl : LkI M.1.cls idx M' 0) (hroom : (st.map (fun v => v.category)).sum ≤ 8) (hdd : 1 ≤ d) (hcs : cs + mc' ≤ mc) (hsl : sl + ms' ≤ ms) (hlen : sh.length = n) (hlen2 : sh'.length = n2) (h1 : n ≤ n2) (hb : n2 ≤ 999999) (h0 : n0 ≤ n) (hLr : Rfs n L) (hst : Rfs n st)
    (hc : CN (d - 1) mc' ms' M' sh [.ref b] me sh' me') (k : Wa M sx d mc ms n0 Q np L st sh' me' (cs + mc') (sl + ms')) : Wa M sx d mc ms n0 Q pc L (.ref b :: st) sh me cs sl := by
  subst hlen
  subst hlen2
  exact wa_callI (d' := d - 1) hd hn hl hroom (by omega) hcs hsl h1 hb h0 hLr hst hc k
theorem wl_callIN {idx n n2 b mc' ms' : Nat} {host : String} {M' : MR} {sh' : List Shp} {me' : Mem} (hd : decode M.2.1 pc = .ok (.invokespecial idx, 3)) (hn : pc + 3 = np) (hl : LkIN M.1.cls idx M' 0 host) (hroom : (st.map (fun v => v.category)).sum ≤ 8) (hdd : 1 ≤ d) (hcs : cs + mc' ≤ mc) (hsl : sl + ms' ≤ ms) (hlen : sh.length = n) (hlen2 : sh'.length = n2) (h1 : n ≤ n2) (hb : n2 ≤ 999999) (h0 : n0 ≤ n) (hLr : Rfs n L) (hst : Rfs n st)
    (hc : CN (d - 1) mc' ms' M' sh [.ref b] me sh' me') (k : Wa M sx d mc ms n0 Q np L st sh' me' (cs + mc') (sl + ms')) : Wa M sx d mc ms n0 Q pc L (.ref b :: st) sh me cs sl := by
  subst hlen
  subst hlen2
  exact wa_callIN (d' := d - 1) hd hn hl hroom (by omega) hcs hsl h1 hb h0 hLr hst hc k
theorem wl_multiL {idx N K n : Nat} {v1 v2 : Int32} (hd : decode M.2.1 pc = .ok (.multianewarray idx 2, 4)) (hn : pc + 4 = np) (hw : Cond.classLink M.1.cls idx "[[I" ∈ WS) (hv1 : v1 = nI N) (hv2 : v2 = nI K) (hN : N ≤ 1000) (hK : K ≤ 1000) (hlen : sh.length = n) (hz : Zr me n) (h0 : n0 ≤ n) (hb : n + N < 999999) (hL : Rfs n L) (hst : Rfs n st) (hcs : cs + (1 + N) ≤ mc) (hsl : sl + (N + N * K) ≤ ms)
    (k : Wa M sx d mc ms n0 Q np L (.ref n :: st) (sh ++ .inr (3, N) :: List.replicate N (.inr (0, K))) (muM me n N) (cs + 1 + N) (sl + N + N * K)) : Wa M sx d mc ms n0 Q pc L (.int v2 :: .int v1 :: st) sh me cs sl := by
  subst hn
  subst hv1
  subst hv2
  subst hlen
  intro l p e R s m args below meth c D cA adr0 A Z C adr H locs ls he hP hD hS hL0
  have hR := C.2.2.2.2.2.1
  refine gd_W (N := N) (K := K) C.1.1 C.1.2.1 C.1.2.2.2.2 (C.2.1 _ hw) (C.2.2.1 _ wao_int rfl) (C.2.1 _ wac_int) hd (nI_pos (by omega)) (nI_clamp (by omega)) (nI_pos (by omega)) (nI_clamp (by omega)) hN hK (by omega) (by omega) (fun cA' cI hA hI => ?_)
  have hz1 : (gd_heap H cA' cI N K N).size = H.size + 1 + N := gd_size
  have ho1 : ∀ q, q < H.size → (gd_heap H cA' cI N K N)[q]? = H[q]? := fun q hq => gd_old hq
  have hout : (gd_heap H cA' cI N K N)[H.size]? = some (arrV cA' N (gd_lead H.size N)) := gd_top
  have hinn : ∀ j, j < N → (gd_heap H cA' cI N K N)[H.size + 1 + j]? = some (arrV cI K (fun _ => .int 0)) := fun j hj => gd_in hj
  have hJ : ∀ q ∈ gd_locs H.size N, q.base = H.size := fun q hq => by
    obtain ⟨i, -, rfl⟩ := List.mem_map.mp hq
    rfl
  generalize gd_heap H cA' cI N K N = H1 at hz1 ho1 hout hinn ⊢
  generalize gd_locs H.size N = J at hJ ⊢
  have e3 : cA' = cA 3 := Option.some.inj (hA.symm.trans ((C.2.2.2.1.2 3 (cA 3, .array .int) rfl).2 : s.vm.findClass _ = some (cA 3)))
  have e0 : cI = cA 0 := Option.some.inj (hI.symm.trans ((C.2.2.2.1.2 0 (cA 0, .int) rfl).2 : s.vm.findClass _ = some (cA 0)))
  subst e3
  subst e0
  let ad : Nat → Nat := fun k => if sh.length ≤ k ∧ k ≤ sh.length + N then H.size + (k - sh.length) else adr k
  have adO : ∀ k, k < sh.length → ad k = adr k := fun k hk => if_neg (by omega)
  have adE : ∀ k, sh.length + N < k → ad k = adr k := fun k hk => if_neg (by omega)
  have adI : ∀ j, j ≤ N → ad (sh.length + j) = H.size + j := fun j hj => by
    show (if sh.length ≤ sh.length + j ∧ sh.length + j ≤ sh.length + N then H.size + (sh.length + j - sh.length) else adr _) = _
    rw [if_pos (by omega)]
    omega
  have hlen2 : (sh ++ .inr (3, N) :: List.replicate N (.inr (0, K)) : List Shp).length = sh.length + 1 + N := by
    simp only [List.length_append, List.length_cons, List.length_replicate]
    omega
  have hx : ext sh.length (sh.length + 1 + N) adr ad := fun k hk => by
    rcases hk with q | q
    · exact adO k q
    · exact adE k (by omega)
  have hgo : ∀ k t, k < sh.length → cel cA ad (muM me sh.length N) k t = cel cA adr me k t := fun k t hk => by
    have e1 : gI (muM me sh.length N) k = gI me k := rfl
    have e2 : gR (muM me sh.length N) k = gR me k := by
      funext b
      rw [gR_mu, if_neg (by omega)]
    have e3 : cel cA ad (muM me sh.length N) k t = cel cA ad me k t := by
      match t with
      | .inl ci => simp only [cel]; congr 2; apply List.map_congr_left; intro x _; simp only [fval, e1, e2]
      | .inr (0, n) => simp only [cel, e1]
      | .inr (t + 1, n) => simp only [cel, e2]
    rw [e3]
    exact cel_ext adO (hz.2 k) t
  have hcase : ∀ (k : Nat) (q : Nat × va_E), (wl (sh ++ .inr (3, N) :: List.replicate N (.inr (0, K))) cA ad (muM me sh.length N))[k]? = some q → (k < sh.length ∧ (wl sh cA adr me)[k]? = some q) ∨ (∃ j, j ≤ N ∧ k = sh.length + j ∧ q.1 = H.size + j ∧ va_at D vwCl q H1) := by
    intro k q hq
    obtain ⟨t, ht, rfl⟩ := wl_iff hq
    by_cases hk : k < sh.length
    · left
      rw [List.getElem?_append_left hk] at ht
      refine ⟨hk, ?_⟩
      rw [wl_get ht, adO k hk, hgo k t hk]
    · right
      rw [List.getElem?_append_right (by omega)] at ht
      by_cases hk0 : k = sh.length
      · subst hk0
        rw [Nat.sub_self] at ht
        cases ht
        refine ⟨0, Nat.zero_le _, rfl, adI 0 (Nat.zero_le _), ?_⟩
        show H1[ad sh.length]? = some (vp_cell (cA 3) _)
        have ea : ad sh.length = H.size := adI 0 (Nat.zero_le _)
        rw [ea, hout, vp_cell_q]
        congr 2
        funext j
        rw [gR_mu, if_pos rfl]
        unfold gd_lead
        by_cases hj : j < N
        · rw [if_pos hj, if_pos hj]
          show Value.ref _ = Value.ref (ad (sh.length + 1 + j))
          rw [show sh.length + 1 + j = sh.length + (1 + j) by omega, adI (1 + j) (by omega), Nat.add_assoc]
        · rw [if_neg hj, if_neg hj]
          rfl
      · obtain ⟨j, hj⟩ : ∃ j, k = sh.length + (j + 1) := ⟨k - sh.length - 1, by omega⟩
        subst hj
        rw [show sh.length + (j + 1) - sh.length = j + 1 by omega, List.getElem?_cons_succ] at ht
        have hjN : j < N := by
          have := (List.getElem?_eq_some_iff.mp ht).1
          rw [List.length_replicate] at this
          exact this
        rw [List.getElem?_replicate, if_pos hjN] at ht
        cases ht
        refine ⟨j + 1, by omega, rfl, adI (j + 1) (by omega), ?_⟩
        show H1[ad (sh.length + (j + 1))]? = some (vp_cell (cA 0) _)
        have eg : gI (muM me sh.length N) (sh.length + (j + 1)) = fun _ => 0 := (hz.1 _ (by omega)).1
        rw [adI (j + 1) (by omega), show H.size + (j + 1) = H.size + 1 + j by omega, hinn j hjN, vp_cell_i, eg]
  have hlt : ∀ (k : Nat) (q : Nat × va_E), (wl sh cA adr me)[k]? = some q → q.1 < H.size := fun k q hq => (hP k q hq).lt
  have hP1 : va_P D vwCl (wl (sh ++ .inr (3, N) :: List.replicate N (.inr (0, K))) cA ad (muM me sh.length N)) H1 := by
    intro k q hq
    rcases hcase k q hq with ⟨h1, h2⟩ | ⟨j, h1, h2, h3, h4⟩
    · exact (hP k q h2).kept (ho1 _ (hlt k q h2))
    · exact h4
  have hD1 : va_D A (wl (sh ++ .inr (3, N) :: List.replicate N (.inr (0, K))) cA ad (muM me sh.length N)) := by
    refine ⟨fun i j p q hp hq hpq => ?_, fun k q hq => ?_⟩
    · rcases hcase i p hp with ⟨h1, h2⟩ | ⟨a, h1, h2, h3, h4⟩
      · rcases hcase j q hq with ⟨g1, g2⟩ | ⟨b, g1, g2, g3, g4⟩
        · exact hD.1 i j p q h2 g2 hpq
        · have := hlt i p h2
          omega
      · rcases hcase j q hq with ⟨g1, g2⟩ | ⟨b, g1, g2, g3, g4⟩
        · have := hlt j q g2
          omega
        · omega
    · rcases hcase k q hq with ⟨h1, h2⟩ | ⟨j, h1, h2, h3, h4⟩
      · exact hD.2 k q h2
      · rw [h3]
        exact C.2.2.2.2.1 _ (Nat.le_trans hS.1 (by omega))
  have hS1 : va_S A s.heap H1 (locs ++ J) := ⟨Nat.le_trans hS.1 (by omega), fun q h1 h2 => (ho1 q (Nat.lt_of_lt_of_le h1 hS.1)).trans (hS.2.1 q h1 h2), fun q hq => by
    rcases List.mem_append.mp hq with h | h
    · exact hS.2.2 q h
    · rw [hJ q h]
      exact C.2.2.2.2.1 _ hS.1⟩
  have hk := k l p e R s m args below meth c D cA adr0 A Z C ad H1 (locs ++ J) ls (by rw [hlen2]; exact ext_tr he hx h0 (by omega)) hP1 hD1 hS1 (hL0.moved (fun v hv => cv_ext hx (by omega) (hL v hv)))
  rw [List.map_cons, cvs_ext hx (by omega) hst] at hk
  have ec : cv ad (.ref sh.length) = .ref H.size := by
    show Value.ref (ad sh.length) = .ref H.size
    rw [show ad sh.length = H.size from adI 0 (Nat.zero_le _)]
  rw [ec] at hk
  exact hk
end MK2
