/-! ===== calls ===== -/
def CallsG (d mc ms : Nat) (M : MR) (sh : List Shp) (vs : List Value) (me : Mem) (r : Option Value) (sh' : List Shp) (me' : Mem) : Prop :=
  ∀ (l : Launch) (D : va_G) (cA : Nat → ClassId) (adr : Nat → Nat) (sz : Nat),
    Met l M.1 (wsM M) (rmD d mc ms)
      (va_Pc (vs.map (cv adr)) (fun U => U.heap.size = sz ∧ va_P D vwCl (wl sh cA adr me) U.heap ∧ va_K D vwCl (tysC cA) U ∧ va_D (fun _ => True) (wl sh cA adr me) ∧ Nst U))
      (fun _ st oc t => (∃ adr' : Nat → Nat, oc = .returned r ∧ ext sh.length sh'.length adr adr' ∧ va_P D vwCl (wl sh' cA adr' me') t.heap ∧ va_D (va_A (wl sh cA adr me) sz) (wl sh' cA adr' me')) ∧ va_F (va_A (wl sh cA adr me) sz) st t)
      mc ms (va_A (wl sh cA adr me) sz)
def Calls (d : Nat) (M : MR) (sh : List Shp) (vs : List Value) (me : Mem) (r : Option Value) (me' : Mem) : Prop := CallsG d 0 0 M sh vs me r sh me'
def eL : List Value → List Value
  | [] => []
  | v :: vs => if v.category = 2 then v :: .float 0 :: eL vs else v :: eL vs
def entryL (n : Nat) (vs : List Value) : List Value := eL vs ++ List.replicate (n - (eL vs).length) (.float 0)
theorem eL_args (adr : Nat → Nat) (vs : List Value) : ∀ (o i : Nat) (v : Value), (eL vs)[i]? = some v → v ≠ .float 0 → (o + i, cv adr v) ∈ lv_args o (vs.map (cv adr)) := by
  induction vs with
  | nil => intro o i v h; simp [eL] at h
  | cons u vs ih =>
    intro o i v h hne
    simp only [List.map_cons, lv_args, cv_cat]
    by_cases hc : u.category = 2
    · simp only [eL, hc, if_true] at h ⊢
      match i, h with
      | 0, h => cases (Option.some.inj h); exact List.mem_cons_self
      | 1, h => exact absurd (Option.some.inj h).symm hne
      | i + 2, h =>
        refine List.mem_cons_of_mem _ ?_
        have := ih (o + 2) i v h hne
        rwa [show o + 2 + i = o + (i + 2) by omega] at this
    · simp only [eL, hc, if_false] at h ⊢
      match i, h with
      | 0, h => cases (Option.some.inj h); exact List.mem_cons_self
      | i + 1, h =>
        refine List.mem_cons_of_mem _ ?_
        have := ih (o + 1) i v h hne
        rwa [show o + 1 + i = o + (i + 1) by omega] at this
theorem Lr.entry {adr : Nat → Nat} {n : Nat} {vs : List Value} (h : (lg_sl (vs.map (cv adr))).length ≤ n) : Lr adr (entryL n vs) ((lg_sl (vs.map (cv adr)) ++ List.replicate (n - (lg_sl (vs.map (cv adr))).length) Slot.unset).toArray) n := by
  have hl := lv_entry (vs.map (cv adr)) h
  refine ⟨hl.1, hl.2.1, fun i v hv hne => ?_⟩
  unfold entryL at hv
  by_cases hi : i < (eL vs).length
  · rw [List.getElem?_append_left hi] at hv
    have := eL_args adr vs 0 i v hv hne
    rw [Nat.zero_add] at this
    exact hl.2.2 (i, cv adr v) this
  · rw [List.getElem?_append_right (by omega)] at hv
    have := List.mem_of_getElem? hv
    exact absurd (List.eq_of_mem_replicate this) hne
theorem lg_len (adr : Nat → Nat) (vs : List Value) : (lg_sl (vs.map (cv adr))).length = (eL vs).length := by
  induction vs with
  | nil => rfl
  | cons v vs ih =>
    simp only [lg_sl, List.map_cons, List.flatMap_cons, List.length_append, cv_cat] at ih ⊢
    by_cases hc : v.category = 2
    · simp [eL, hc, ih]; omega
    · simp [eL, hc, ih]; omega
/-- a contract out of its body's walk -/
theorem CallsG.mk {d mc ms : Nat} {M : MR} {sh : List Shp} {vs : List Value} {me : Mem} {r : Option Value} {sh' : List Shp} {me' : Mem} {L : List Value} (hp : plainName M.1.cls = true) (hlen : (eL vs).length ≤ M.2.2.1) (hL : entryL M.2.2.1 vs = L)
    (k : Wa M (0, fun _ => 0) d mc ms sh.length (fun r1 s1 m1 => r1 = r ∧ s1 = sh' ∧ m1 = me') 0 L [] sh me 0 0) : CallsG d mc ms M sh vs me r sh' me' := by
  intro l D cA adr sz
  refine Met.ofW (cc := M.2.1) (maxL := M.2.2.1) (ret := M.2.2.2) hp rfl ?_
  intro p e s m args below meth c s₁ B hml hv
  obtain ⟨rfl, hsz, hP, hK, hD0, hN⟩ := hv
  subst hsz
  have hts := atoms_spec (ws := wsM M) B.pre
  have hD := hD0.self (sz := s.heap.size)
  have hlocks := B.notSynchronized
  rw [lg_entry_eq]
  refine k l p e (rmD d mc ms) s m _ below meth c D cA adr (va_A (wl sh cA adr me) s.heap.size) _ ⟨⟨B.exec, B.bytes, hml, (name_of_methodNamed B.named B.method).1, findClass_of_methodNamed B.named⟩, fun w hw => hts w (List.mem_cons_of_mem _ hw), hN, hK, fun q h => Or.inr h, ⟨Nat.le_refl _, Nat.le_refl _, Nat.le_refl _, Nat.le_refl _⟩, Or.inl rfl, ?_⟩ adr s.heap [] _ (fun _ _ => rfl) hP hD va_S.rf (hL ▸ Lr.entry (by rw [lg_len]; exact hlen))
  intro v sh1 me1 adr1 H1 locs1 ls1 pc hq hr hext hP1 hD1 hS1
  obtain ⟨rfl, rfl, rfl⟩ := hq
  match v, hr with
  | none, hr => exact W.vret B.exec B.bytes (B.returns.trans hr.2) (fun t ht hw => ⟨⟨adr1, rfl, hext, by rw [ht]; exact hP1, hD1⟩, hS1.F ht⟩) hS1.2.2 hr.1 hlocks
  | some (.int x), hr =>
    obtain ⟨h1, ty, h2, h3⟩ := hr
    exact W.zret B.exec B.bytes (B.returns.trans h2) h3 (fun t ht hw => ⟨⟨adr1, rfl, hext, by rw [ht]; exact hP1, hD1⟩, hS1.F ht⟩) hS1.2.2 h1 hlocks
theorem Calls.mk {d : Nat} {M : MR} {sh : List Shp} {vs : List Value} {me : Mem} {r : Option Value} {me' : Mem} {L : List Value} (hp : plainName M.1.cls = true) (hlen : (eL vs).length ≤ M.2.2.1) (hL : entryL M.2.2.1 vs = L)
    (k : Wa M (0, fun _ => 0) d 0 0 sh.length (fun r1 s1 m1 => r1 = r ∧ s1 = sh ∧ m1 = me') 0 L [] sh me 0 0) : Calls d M sh vs me r me' := CallsG.mk hp hlen hL k
/-! what a call's link needs -/
def MOk (M : MR) (n : Nat) : Prop := Cond.code M.1 M.2.1 M.2.2.1 M.2.2.2 ∈ WS ∧ (M.1.cls ≠ "java/lang/invoke/MethodHandle" ∧ M.1.cls ≠ "java/lang/invoke/VarHandle" ∧ (parseMethodDescriptor M.1.desc).map (fun d => d.parameters.length) = some n) ∧ M.2.2.1 ≤ 29 ∧ Cond.initialized M.1.cls ∈ WS
def LkS (own : String) (idx : Nat) (M : MR) (n : Nat) : Prop := Cond.methodLink own idx M.1 ∈ WS ∧ Cond.static M.1 ∈ WS ∧ MOk M n
def LkV (own : String) (idx : Nat) (M : MR) (n ci : Nat) : Prop := Cond.methodLink own idx M.1 ∈ WS ∧ Cond.instanceMethod M.1 ∈ WS ∧ Cond.selects M.1.cls M.1 M.1 ∈ WS ∧ MOk M n ∧ (vwCl[ci]?).map (fun q => q.1) = some M.1.cls
def LkSN (own : String) (idx : Nat) (M : MR) (n : Nat) (host : String) : Prop := Cond.methodLinkNest own idx M.1 host ∈ lw_tbl ∧ Cond.static M.1 ∈ WS ∧ MOk M n
theorem goodWS {w : Cond} (h : w ∈ WS) : goodWord w = true := (List.mem_filter.mp h).2
theorem goodInWS {M : MR} {n : Nat} (h : MOk M n) : GoodIn WS (wsM M) := fun w hw => by
  rcases List.mem_cons.mp hw with rfl | hw
  · exact ⟨h.1, good_of_word (goodWS h.1)⟩
  · exact ⟨hw, good_of_word (goodWS hw)⟩
section CALLS
variable {M : MR} {sx : Scr} {d mc ms n0 : Nat} {Q : Post} {pc np tg : Nat} {L st stk : List Value} {sh : List Shp} {me me' : Mem} {cs sl : Nat}
theorem pc_blind {D : va_G} {cA : Nat → ClassId} {adr : Nat → Nat} {av : List Value} {sz : Nat} : FrameBlind (va_Pc av (fun U => U.heap.size = sz ∧ va_P D vwCl (wl sh cA adr me) U.heap ∧ va_K D vwCl (tysC cA) U ∧ va_D (fun _ => True) (wl sh cA adr me) ∧ Nst U)) := by
  intro a U g mk q
  obtain ⟨q0, q1, q2, q3, q4, q5⟩ := q
  exact ⟨q0, q1, q2, va_K.moved (u := U) (U := U.calling g mk a) (Vm.Alike.refl U.vm) q3, q4, Nst.same (s := U) (U := U.calling g mk a) rfl q5⟩
/-- behind a call that makes nothing -/
theorem wa_back {l : Launch} {p : Program} {e : Env} {R : Room} {s : State} {m : MethodId} {args : Array Value} {below : List Frame} {meth : Method} {c : Code} {D : va_G} {cA : Nat → ClassId} {adr0 : Nat → Nat} {A : Nat → Prop} {Z : State → Prop} (C : Cx M sx d mc ms n0 Q l p e R s m args below meth c D cA adr0 A Z)
    {adr : Nat → Nat} {H : Heap} {locs : List Loc} {ls : Array Slot} (he : ext n0 sh.length adr0 adr) (hD : va_D A (wl sh cA adr me)) (hS : va_S A s.heap H locs) (hL : Lr adr L ls M.2.2.1) {r : Option Value} {aa : Array Value} {sk : List Value}
    (hr : va_Run p l e R s m args below meth c H locs cs sl 0 0 (F0 m pc ls sk) (st.map (cv adr)) ((fun _ st oc t => (∃ adr' : Nat → Nat, oc = .returned r ∧ ext sh.length sh.length adr adr' ∧ va_P D vwCl (wl sh cA adr' me') t.heap ∧ va_D (va_A (wl sh cA adr me) H.size) (wl sh cA adr' me')) ∧ va_F (va_A (wl sh cA adr me) H.size) st t) aa) (va_A (wl sh cA adr me) H.size))
    (hrr : ∀ f : Nat → Nat, r.toList.map (cv f) = r.toList)
    (k : Wa M sx d mc ms n0 Q (pc + 3) L (r.toList ++ st) sh me' cs sl) : W p l e R s m args below meth c H locs cs sl Z (F0 m pc ls sk) := by
  intro T hT X
  obtain ⟨v, st₀, t, T', L', h0, X', hL', e1, e2, ⟨⟨adr', hv, hext, hP1, hD1⟩, hz, hk⟩, stp⟩ := hr T hT X
  cases hv
  have ea : adr' = adr := funext fun k => hext k (by omega)
  subst ea
  rw [h0] at hz hk
  have hfree : ∀ q, va_A (wl sh cA adr' me) H.size q → A q := by
    intro q hq
    rcases hq with ⟨i, ee, hi⟩ | hq
    · exact hD.2 i _ hi
    · exact C.2.2.2.2.1 q (Nat.le_trans hS.1 hq)
  have hS1 : va_S A s.heap T'.heap (locs ++ L') := ⟨Nat.le_trans hS.1 (by rw [e1]; exact hz), fun q h1 h2 => by
      rw [e1, hk q (Nat.lt_of_lt_of_le h1 hS.1) (fun z => h2 (hfree q z))]; exact hS.2.1 q h1 h2, fun q hq => by
      rcases List.mem_append.mp hq with h | h
      · exact hS.2.2 q h
      · exact hfree _ (hL' q h)⟩
  have kk := k l p e R s m args below meth c D cA adr0 A Z C adr' T'.heap (locs ++ L') ls he (by rw [e1]; exact hP1) (hD1.weaken (fun i q _ h => hfree _ h)) hS1 hL
  rw [List.map_append, hrr] at kk
  obtain ⟨t2, a1, b1⟩ := kk T' rfl X'
  exact ⟨t2, stp t2 a1, b1⟩
theorem st_room {adr : Nat → Nat} {m : MethodId} {ls : Array Slot} {sk : List Value} (h : (st.map (fun v => v.category)).sum ≤ 8) : 2 * (F0 m pc ls sk).monitorRoom + ((st.map (cv adr)).map fun v => v.category).sum ≤ 8 := by
  rw [List.map_map]
  have ee : ((fun v : Value => v.category) ∘ cv adr) = (fun v => v.category) := funext (cv_cat adr)
  rw [ee]
  have e0 : (F0 m pc ls sk).monitorRoom = 0 := rfl
  omega
theorem wa_callS {idx n d' : Nat} {M' : MR} {vs : List Value} {r : Option Value} (hd : decode M.2.1 pc = .ok (.invokestatic idx, 3)) (hn : pc + 3 = np) (hl : LkS M.1.cls idx M' n) (hv : vs.length = n) (hst : stk = vs.reverse ++ st) (hroom : (st.map (fun v => v.category)).sum ≤ 8) (hdd : d' + 1 ≤ d) (hcs : cs ≤ mc) (hsl : sl ≤ ms) (hrr : ∀ f : Nat → Nat, r.toList.map (cv f) = r.toList)
    (hc : Calls d' M' sh vs me r me') (k : Wa M sx d mc ms n0 Q np L (r.toList ++ st) sh me' cs sl) : Wa M sx d mc ms n0 Q pc L stk sh me cs sl := by
  subst hn; subst hst
  intro l p e R s m args below meth c D cA adr0 A Z C adr H locs ls he hP hD hS hL
  obtain ⟨h1, h2, h3⟩ := hl
  refine wa_back (aa := (vs.map (cv adr)).toArray) C he hD hS hL ?_ hrr k
  have hR := C.2.2.2.2.2.1
  exact va_runS (As := vs.map (cv adr)) (Ts := WS) (bytes := M'.2.1) (maxL := M'.2.2.1) (ret := M'.2.2.2) (ws := wsM M') (rm := rmD d' 0 0) ⟨C.1.1, C.1.2.1, C.1.2.2.1, C.1.2.2.2.2, C.2.1⟩ (hc l D cA adr H.size) ⟨callB_of n C.2.1 (goodInWS h3) rfl rfl rfl (C.2.1 _ h3.2.2.2) (C.2.1 _ h1) h3.2.1 ⟨by show d' + 1 ≤ R.frames; omega, by show 8 + (M'.2.2.1 + 11) + 48 * d' ≤ R.locals; have := h3.2.2.1; omega⟩, C.2.1 _ h2⟩
    ⟨pc_blind, fun U hU hW => ⟨rfl, by rw [hU], by rw [hU]; exact hP, va_K.moved hW.alike C.2.2.2.1, hD.weaken (fun _ _ _ _ => trivial), Nst.warm hW C.2.2.1⟩⟩ rfl (by rw [List.length_map]; exact hv) hL.1 (by show List.map (cv adr) (vs.reverse ++ st) = _; rw [List.map_append, List.map_reverse]) (st_room hroom) hd ⟨by omega, by omega⟩
theorem wa_callSN {idx n d' : Nat} {host : String} {M' : MR} {vs : List Value} {r : Option Value} (hd : decode M.2.1 pc = .ok (.invokestatic idx, 3)) (hn : pc + 3 = np) (hl : LkSN M.1.cls idx M' n host) (hv : vs.length = n) (hst : stk = vs.reverse ++ st) (hroom : (st.map (fun v => v.category)).sum ≤ 8) (hdd : d' + 1 ≤ d) (hcs : cs ≤ mc) (hsl : sl ≤ ms) (hrr : ∀ f : Nat → Nat, r.toList.map (cv f) = r.toList)
    (hc : Calls d' M' sh vs me r me') (k : Wa M sx d mc ms n0 Q np L (r.toList ++ st) sh me' cs sl) : Wa M sx d mc ms n0 Q pc L stk sh me cs sl := by
  subst hn; subst hst
  intro l p e R s m args below meth c D cA adr0 A Z C adr H locs ls he hP hD hS hL
  obtain ⟨h1, h2, h3⟩ := hl
  refine wa_back (aa := (vs.map (cv adr)).toArray) C he hD hS hL ?_ hrr k
  have hR := C.2.2.2.2.2.1
  exact va_runSN (As := vs.map (cv adr)) (Ts := WS) (bytes := M'.2.1) (maxL := M'.2.2.1) (ret := M'.2.2.2) (ws := wsM M') (rm := rmD d' 0 0) ⟨C.1.1, C.1.2.1, C.1.2.2.1, C.1.2.2.2.2, C.2.1⟩ (hc l D cA adr H.size) ⟨va_cnB n C.2.1 (goodInWS h3) rfl rfl rfl (C.2.2.1 _ h1 rfl) (C.2.1 _ h3.2.2.2) h3.2.1 ⟨by show d' + 1 ≤ R.frames; omega, by show 8 + (M'.2.2.1 + 11) + 48 * d' ≤ R.locals; have := h3.2.2.1; omega⟩, C.2.1 _ h2, trivial⟩
    ⟨pc_blind, fun U hU hW => ⟨rfl, by rw [hU], by rw [hU]; exact hP, va_K.moved hW.alike C.2.2.2.1, hD.weaken (fun _ _ _ _ => trivial), Nst.warm hW C.2.2.1⟩⟩ rfl (by rw [List.length_map]; exact hv) hL.1 (by show List.map (cv adr) (vs.reverse ++ st) = _; rw [List.map_append, List.map_reverse]) (st_room hroom) hd ⟨by omega, by omega⟩
theorem wa_callV {idx n d' ci b : Nat} {M' : MR} {vs : List Value} {r : Option Value} (hd : decode M.2.1 pc = .ok (.invokevirtual idx, 3)) (hn : pc + 3 = np) (hl : LkV M.1.cls idx M' n ci) (hs : sh[b]? = some (.inl ci)) (hv : vs.length = n) (hst : stk = vs.reverse ++ .ref b :: st) (hroom : (st.map (fun v => v.category)).sum ≤ 8) (hdd : d' + 1 ≤ d) (hcs : cs ≤ mc) (hsl : sl ≤ ms) (hrr : ∀ f : Nat → Nat, r.toList.map (cv f) = r.toList)
    (hc : Calls d' M' sh (.ref b :: vs) me r me') (k : Wa M sx d mc ms n0 Q np L (r.toList ++ st) sh me' cs sl) : Wa M sx d mc ms n0 Q pc L stk sh me cs sl := by
  subst hn; subst hst
  intro l p e R s m args below meth c D cA adr0 A Z C adr H locs ls he hP hD hS hL
  obtain ⟨h1, h2, h4, h3, h5⟩ := hl
  refine wa_back (aa := (Value.ref (adr b) :: vs.map (cv adr)).toArray) C he hD hS hL ?_ hrr k
  have hR := C.2.2.2.2.2.1
  cases hq : vwCl[ci]? with
  | none => rw [hq] at h5; cases h5
  | some q =>
    rw [hq] at h5
    have h6 : q.1 = M'.1.cls := Option.some.inj h5
    exact va_runV (C := M'.1.cls) (b := adr b) (As := vs.map (cv adr)) (Ts := WS) (bytes := M'.2.1) (maxL := M'.2.2.1) (ret := M'.2.2.2) (ws := wsM M') (rm := rmD d' 0 0) ⟨C.1.1, C.1.2.1, C.1.2.2.1, C.1.2.2.2.2, C.2.1⟩ (hc l D cA adr H.size) ⟨callB_of n C.2.1 (goodInWS h3) rfl rfl rfl (C.2.1 _ h3.2.2.2) (C.2.1 _ h1) h3.2.1 ⟨by show d' + 1 ≤ R.frames; omega, by show 8 + (M'.2.2.1 + 11) + 48 * d' ≤ R.locals; have := h3.2.2.1; omega⟩, C.2.1 _ h2, C.2.1 _ h4⟩
      ⟨pc_blind, by rw [← h6]; exact va_recv C.2.2.2.1 hP hq (wl_get hs), fun U hU hW => ⟨rfl, by rw [hU], by rw [hU]; exact hP, va_K.moved hW.alike C.2.2.2.1, hD.weaken (fun _ _ _ _ => trivial), Nst.warm hW C.2.2.1⟩⟩ rfl (by rw [List.length_map]; exact hv) hL.1 (by show List.map (cv adr) (vs.reverse ++ Value.ref b :: st) = _; rw [List.map_append, List.map_reverse]; rfl) (st_room hroom) hd ⟨by omega, by omega⟩
/-! the library's own: Math.min, Math.max, System.arraycopy of ints -/
def LkMin (own : String) (idx : Nat) : Prop := Cond.methodLink own idx Lib.Math.min.name ∈ WS ∧ Cond.static Lib.Math.min.name ∈ WS ∧ Cond.initialized "java/lang/Math" ∈ WS ∧ Cond.code Lib.Math.min.name Lib.Math.min.code 2 (some .int) ∈ WS
def LkMax (own : String) (idx : Nat) : Prop := Cond.methodLink own idx Lib.Math.max.name ∈ WS ∧ Cond.static Lib.Math.max.name ∈ WS ∧ Cond.initialized "java/lang/Math" ∈ WS ∧ Cond.code Lib.Math.max.name Lib.Math.max.code 2 (some .int) ∈ WS
def LkCpy (own : String) (idx : Nat) : Prop := Cond.methodLink own idx arraycopyName ∈ WS ∧ Cond.native arraycopyName ∈ WS ∧ Cond.static arraycopyName ∈ WS ∧ Cond.initialized "java/lang/System" ∈ WS
theorem cat_sum {adr : Nat → Nat} (st : List Value) : ((st.map (cv adr)).map fun v => v.category).sum = (st.map (fun v => v.category)).sum := by
  rw [List.map_map]
  have ee : ((fun v : Value => v.category) ∘ cv adr) = (fun v => v.category) := funext (cv_cat adr)
  rw [ee]
theorem wl_min {idx : Nat} {x y : Int32} (hd : decode M.2.1 pc = .ok (.invokestatic idx, 3)) (hn : pc + 3 = np) (hl : LkMin M.1.cls idx) (hroom : (st.map (fun v => v.category)).sum ≤ 8) (hdd : 1 ≤ d) (hcs : cs ≤ mc) (hsl : sl ≤ ms) (k : Wa M sx d mc ms n0 Q np L (.int (if y < x then y else x) :: st) sh me cs sl) : Wa M sx d mc ms n0 Q pc L (.int y :: .int x :: st) sh me cs sl := by
  subst hn
  intro l p e R s m args below meth c D cA adr0 A Z C adr H locs ls he hP hD hS hL
  obtain ⟨h1, h2, h3, h4⟩ := hl
  have hR := C.2.2.2.2.2.1
  exact va_mmin C.1.1 C.1.2.1 (C.1.2.2.1.trans hL.1.symm) C.1.2.2.2.2 (C.2.1 _ h1) (C.2.1 _ h2) (C.2.1 _ h3) (C.2.1 _ h4) (by omega) (by rw [cat_sum]; omega) (by omega) (by omega) hd (k l p e R s m args below meth c D cA adr0 A Z C adr H locs ls he hP hD hS hL)
theorem wl_max {idx : Nat} {x y : Int32} (hd : decode M.2.1 pc = .ok (.invokestatic idx, 3)) (hn : pc + 3 = np) (hl : LkMax M.1.cls idx) (hroom : (st.map (fun v => v.category)).sum ≤ 8) (hdd : 1 ≤ d) (hcs : cs ≤ mc) (hsl : sl ≤ ms) (k : Wa M sx d mc ms n0 Q np L (.int (if x < y then y else x) :: st) sh me cs sl) : Wa M sx d mc ms n0 Q pc L (.int y :: .int x :: st) sh me cs sl := by
  subst hn
  intro l p e R s m args below meth c D cA adr0 A Z C adr H locs ls he hP hD hS hL
  obtain ⟨h1, h2, h3, h4⟩ := hl
  have hR := C.2.2.2.2.2.1
  exact va_mmax C.1.1 C.1.2.1 (C.1.2.2.1.trans hL.1.symm) C.1.2.2.2.2 (C.2.1 _ h1) (C.2.1 _ h2) (C.2.1 _ h3) (C.2.1 _ h4) (by omega) (by rw [cat_sum]; omega) (by omega) (by omega) hd (k l p e R s m args below meth c D cA adr0 A Z C adr H locs ls he hP hD hS hL)
theorem wl_copy {idx a b na nb : Nat} {sp dp n : Int32} (hd : decode M.2.1 pc = .ok (.invokestatic idx, 3)) (hn : pc + 3 = np) (hl : LkCpy M.1.cls idx) (hroom : (st.map (fun v => v.category)).sum ≤ 8) (hdd : 2 ≤ d) (ha : sh[a]? = some (.inr (0, na))) (hb : sh[b]? = some (.inr (0, nb))) (h1 : ¬ sp < 0) (h2 : ¬ dp < 0) (h3 : ¬ n < 0) (h4 : sp.toNatClampNeg + n.toNatClampNeg ≤ na) (h5 : dp.toNatClampNeg + n.toNatClampNeg ≤ nb)
    (k : Wa M sx d mc ms n0 Q np L st sh (uA me b (va_cpy (gI me a) (gI me b) sp.toNatClampNeg dp.toNatClampNeg n.toNatClampNeg)) cs sl) : Wa M sx d mc ms n0 Q pc L (.int n :: .int dp :: .ref b :: .int sp :: .ref a :: st) sh me cs sl := by
  subst hn
  intro l p e R s m args below meth c D cA adr0 A Z C adr H locs ls he hP hD hS hL
  obtain ⟨g1, g2, g3, g4⟩ := hl
  have hR := C.2.2.2.2.2.1
  have hw : nativeFrameWords "java/lang/System" "arraycopy" 5 + 11 ≤ 80 := by decide
  refine va_copyi (ty := .int) C.1.1 C.1.2.1 (C.1.2.2.1.trans hL.1.symm) C.1.2.2.2.2 (C.2.1 _ g1) (C.2.1 _ g2) (C.2.1 _ g3) (C.2.1 _ g4) C.2.2.2.1 hP hD hS a b 0 0 (wl_get ha) (wl_get hb) rfl rfl rfl h1 h2 h3 h4 h5 (fun _ _ => rfl) (by omega) (by rw [cat_sum]; omega) hd (fun H1 locs1 hP1 hD1 hS1 => ?_)
  have ew := wl_setA (cA := cA) (adr := adr) (me := me) (f := va_cpy (gI me a) (gI me b) sp.toNatClampNeg dp.toNatClampNeg n.toNatClampNeg) hb
  rw [ew] at hP1 hD1
  exact k l p e R s m args below meth c D cA adr0 A Z C adr H1 locs1 ls he hP1 hD1 hS1 hL
end CALLS
