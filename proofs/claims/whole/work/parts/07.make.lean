/-! ===== making things ===== -/
/-- what isn't made yet is nothing; references lead to what is made -/
def Zr (me : Mem) (n : Nat) : Prop := (∀ a, n ≤ a → me.1 a = (fun _ => 0) ∧ me.2 a = fun _ => none) ∧ ∀ a b c, gR me a b = some c → c < n
/-- values that lead to what is made alone -/
def Rfs (n : Nat) (vs : List Value) : Prop := ∀ v ∈ vs, ∀ a, v = .ref a → a < n
theorem Rfs.nil {n : Nat} : Rfs n [] := fun v h => by cases h
theorem Rfs.ref {n a : Nat} {vs : List Value} (h : a < n) (hv : Rfs n vs) : Rfs n (.ref a :: vs) := fun v hm b hb => by
  rcases List.mem_cons.mp hm with rfl | hm
  · cases hb; exact h
  · exact hv v hm b hb
theorem Rfs.int {n : Nat} {x : Int32} {vs : List Value} (hv : Rfs n vs) : Rfs n (.int x :: vs) := fun v hm b hb => by
  rcases List.mem_cons.mp hm with rfl | hm
  · cases hb
  · exact hv v hm b hb
theorem Rfs.flt {n : Nat} {x : UInt32} {vs : List Value} (hv : Rfs n vs) : Rfs n (.float x :: vs) := fun v hm b hb => by
  rcases List.mem_cons.mp hm with rfl | hm
  · cases hb
  · exact hv v hm b hb
theorem Rfs.scr {n x : Nat} {vs : List Value} (hv : Rfs n vs) : Rfs n (.retAddr x :: vs) := fun v hm b hb => by
  rcases List.mem_cons.mp hm with rfl | hm
  · cases hb
  · exact hv v hm b hb
theorem cv_ext {n n' : Nat} {adr adr' : Nat → Nat} (h : ext n n' adr adr') (hn : n' ≤ 999999) {v : Value} (hv : ∀ a, v = .ref a → a < n) : cv adr' v = cv adr v := by
  cases v with
  | ref a =>
    show Value.ref (adr' a) = .ref (adr a)
    rw [h a (Or.inl (hv a rfl))]
  | retAddr z =>
    show Value.ref (adr' 999999) = .ref (adr 999999)
    rw [h _ (Or.inr hn)]
  | _ => rfl
theorem cvs_ext {n n' : Nat} {adr adr' : Nat → Nat} (h : ext n n' adr adr') (hn : n' ≤ 999999) {vs : List Value} (hv : Rfs n vs) : vs.map (cv adr') = vs.map (cv adr) := List.map_congr_left (fun v hm => cv_ext h hn (hv v hm))
theorem cel_ext {cA : Nat → ClassId} {adr adr' : Nat → Nat} {me : Mem} {n k : Nat} (h : ∀ i, i < n → adr' i = adr i) (hr : ∀ b c, gR me k b = some c → c < n) (t : Shp) : cel cA adr' me k t = cel cA adr me k t := by
  have e2 : ∀ b, (gR me k b).map adr' = (gR me k b).map adr := fun b => by
    cases hb : gR me k b with
    | none => rfl
    | some c =>
      show some (adr' c) = some (adr c)
      rw [h c (hr b c hb)]
  match t with
  | .inl ci => simp only [cel]; congr 2; apply List.map_congr_left; intro x _; simp only [fval, e2]
  | .inr (0, n) => rfl
  | .inr (t + 1, n) => simp only [cel, e2]
theorem wl_adr {cA : Nat → ClassId} {adr adr' : Nat → Nat} {me : Mem} {sh : List Shp} (h : ∀ i, i < sh.length → adr' i = adr i) (hr : ∀ a b c, gR me a b = some c → c < sh.length) : wl sh cA adr' me = wl sh cA adr me := by
  apply List.ext_getElem?
  intro i
  simp only [wl, List.getElem?_mapIdx]
  cases hs : sh[i]? with
  | none => rfl
  | some t =>
    have hi : i < sh.length := (List.getElem?_eq_some_iff.mp hs).1
    simp only [Option.map_some]
    rw [h i hi, cel_ext h (hr i) t]
theorem wl_push {cA : Nat → ClassId} {adr : Nat → Nat} {me : Mem} {sh : List Shp} {t : Shp} : wl (sh ++ [t]) cA adr me = wl sh cA adr me ++ [(adr sh.length, cel cA adr me sh.length t)] := by
  unfold wl
  rw [List.mapIdx_append]
  simp
/-- an address more -/
def adN (adr : Nat → Nat) (n q : Nat) : Nat → Nat := fun k => if k = n then q else adr k
theorem adN_s {adr : Nat → Nat} {n q : Nat} : adN adr n q n = q := if_pos rfl
theorem adN_n {adr : Nat → Nat} {n q k : Nat} (h : k ≠ n) : adN adr n q k = adr k := if_neg h
theorem adN_ext {adr : Nat → Nat} {n q : Nat} : ext n (n + 1) adr (adN adr n q) := fun k h => adN_n (by omega)
theorem ext_tr {n0 n n' : Nat} {a b c : Nat → Nat} (h1 : ext n0 n a b) (h2 : ext n n' b c) (h0 : n0 ≤ n) (hn : n ≤ n') : ext n0 n' a c := fun k h => (h2 k (by omega)).trans (h1 k (by omega))
/-- what 'new' needs: the words -/
def NLk (own : String) (idx ci : Nat) : Prop := ∃ (C : String) (T : u_T) (N : Nat) (ty : Nat → FieldType), vwCl[ci]? = some (C, T, N) ∧ N = fn ci ∧ (∀ w ∈ u_ws C T N, w ∈ WS) ∧ (∀ k, k < N → parseFieldDescriptor (T k).2.2.1 = some (ty k)) ∧ Cond.classLink own idx C ∈ WS ∧ Cond.instantiable C N ∈ WS ∧ Cond.initialized C ∈ WS ∧ ∀ j, j < N → defaultValue (ty j) = if fk ci j = 1 then .null else .int 0
section MAKE
variable {M : MR} {sx : Scr} {d mc ms n0 : Nat} {Q : Post} {pc np tg : Nat} {L st : List Value} {sh : List Shp} {me : Mem} {cs sl : Nat}
/-- behind the making of a cell -/
theorem wa_made {l : Launch} {p : Program} {e : Env} {R : Room} {s : State} {m : MethodId} {args : Array Value} {below : List Frame} {meth : Method} {c : Code} {D : va_G} {cA : Nat → ClassId} {adr0 : Nat → Nat} {A : Nat → Prop} {Z : State → Prop} (C : Cx M sx d mc ms n0 Q l p e R s m args below meth c D cA adr0 A Z)
    {adr : Nat → Nat} {H1 : Heap} {locs : List Loc} {ls : Array Slot} {q : Nat} {t : Shp} {E : va_E} (he : ext n0 sh.length adr0 adr) (hL0 : Lr adr L ls M.2.2.1) (hz : Zr me sh.length) (h0 : n0 ≤ sh.length) (hb : sh.length < 999999) (hL : Rfs sh.length L) (hst : Rfs sh.length st)
    (hE : ∀ adr', cel cA adr' me sh.length t = E) (hP : va_P D vwCl (wl sh cA adr me ++ [(q, E)]) H1) (hD : va_D A (wl sh cA adr me ++ [(q, E)])) (hS : va_S A s.heap H1 locs) {cs' sl' : Nat}
    (k : Wa M sx d mc ms n0 Q np L (.ref sh.length :: st) (sh ++ [t]) me cs' sl') : W p l e R s m args below meth c H1 locs cs' sl' Z (F0 m np ls (.ref q :: st.map (cv adr))) := by
  have ew : wl (sh ++ [t]) cA (adN adr sh.length q) me = wl sh cA adr me ++ [(q, E)] := by
    rw [wl_push, wl_adr (adr := adr) (fun i hi => adN_n (by omega)) hz.2, hE, adN_s]
  have hx : ext sh.length (sh.length + 1) adr (adN adr sh.length q) := adN_ext
  have hk := k l p e R s m args below meth c D cA adr0 A Z C (adN adr sh.length q) H1 locs ls (by rw [List.length_append]; exact ext_tr he hx h0 (by omega)) (by rw [ew]; exact hP) (by rw [ew]; exact hD) hS (hL0.moved (fun v hv => cv_ext hx (by omega) (hL v hv)))
  rw [List.map_cons, cvs_ext hx (by omega) hst] at hk
  have ec : cv (adN adr sh.length q) (.ref sh.length) = .ref q := by
    show Value.ref (adN adr sh.length q sh.length) = .ref q
    rw [adN_s]
  rw [ec] at hk
  exact hk
theorem wl_new {idx ci : Nat} (hd : decode M.2.1 pc = .ok (.new idx, 3)) (hn : pc + 3 = np) (hl : NLk M.1.cls idx ci) (hz : Zr me sh.length) (h0 : n0 ≤ sh.length) (hb : sh.length < 999999) (hL : Rfs sh.length L) (hst : Rfs sh.length st) (hcs : cs + 1 ≤ mc) (hsl : sl + fn ci ≤ ms)
    (k : Wa M sx d mc ms n0 Q np L (.ref sh.length :: st) (sh ++ [.inl ci]) me (cs + 1) (sl + fn ci)) : Wa M sx d mc ms n0 Q pc L st sh me cs sl := by
  subst hn
  intro l p e R s m args below meth c D cA adr0 A Z C adr H locs ls he hP hD hS hL0
  obtain ⟨C0, T, N, ty, h1, h2, h3, h4, h5, h6, h7, h8⟩ := hl
  subst h2
  have hR := C.2.2.2.2.2.1
  refine va_new (C := C0) (T := T) (N := fn ci) (ci := ci) (fs := (List.range (fn ci)).map (fun j => if fk ci j = 1 then Value.null else .int 0)) C.1.1 C.1.2.1 C.2.1 h3 ty h4 C.1.2.2.2.2 (C.2.1 _ h5) (C.2.1 _ h6) (C.2.1 _ h7) C.2.2.2.1 hP hD hS C.2.2.2.2.1 h1 (fun j hj => by rw [h8 j hj]; unfold vp_V; simp [List.getD, hj]) (by omega) (by omega) hd (fun q H1 hP1 hD1 hS1 => ?_)
  refine wa_made C he hL0 hz h0 hb hL hst (fun adr' => ?_) hP1 hD1 hS1 k
  show Sum.inr (ci, (List.range (fn ci)).map (fval adr' me sh.length ci)) = _
  congr 2
  apply List.map_congr_left
  intro j _
  have e1 : gI me sh.length j = 0 := congrFun (hz.1 _ (Nat.le_refl _)).1 j
  have e2 : gR me sh.length j = none := congrFun (hz.1 _ (Nat.le_refl _)).2 j
  unfold fval
  rw [e1, e2]
  rfl
theorem wl_newi {N : Nat} {v : Int32} (hd : decode M.2.1 pc = .ok (.newarray .int, 2)) (hn : pc + 2 = np) (hv : v = nI N) (hN : N ≤ 1000) (hw : Cond.arrayClass .int ∈ WS) (hz : Zr me sh.length) (h0 : n0 ≤ sh.length) (hb : sh.length < 999999) (hL : Rfs sh.length L) (hst : Rfs sh.length st) (hcs : cs + 1 ≤ mc) (hsl : sl + N ≤ ms)
    (k : Wa M sx d mc ms n0 Q np L (.ref sh.length :: st) (sh ++ [.inr (0, N)]) me (cs + 1) (sl + N)) : Wa M sx d mc ms n0 Q pc L (.int v :: st) sh me cs sl := by
  subst hn
  subst hv
  intro l p e R s m args below meth c D cA adr0 A Z C adr H locs ls he hP hD hS hL0
  have hR := C.2.2.2.2.2.1
  refine va_newa (atype := .int) (ty := .int) (N' := N) (a0 := (N, .inl (fun _ => 0))) C.1.1 C.1.2.1 (C.2.1 _ hw) rfl C.2.2.2.1 hP hD hS C.2.2.2.2.1 (fun _ => rfl) (Int32.not_lt.mpr (nI_pos' (by omega))) (nI_clamp (by omega)) (by show N * 4 ≤ 536870912; omega) (by omega) (by omega) hd (fun q cA' H1 hK1 hP1 hD1 hS1 => ?_)
  have ha : cA' = cA 0 := Option.some.inj (((hK1.2 4 (cA', .int) rfl).2 : s.vm.findClass _ = some cA').symm.trans ((C.2.2.2.1.2 0 (cA 0, .int) rfl).2 : s.vm.findClass _ = some (cA 0)))
  subst ha
  refine wa_made C he hL0 hz h0 hb hL hst (fun adr' => ?_) hP1 hD1 hS1 k
  show Sum.inl (cA 0, N, Sum.inl (gI me sh.length)) = _
  have e1 : gI me sh.length = fun _ => 0 := (hz.1 _ (Nat.le_refl _)).1
  rw [e1]
theorem wl_newq {N t idx : Nat} {C0 : String} {v : Int32} (hd : decode M.2.1 pc = .ok (.anewarray idx, 3)) (hn : pc + 3 = np) (hv : v = nI N) (hN : N ≤ 1000) (hT : ∀ cA : Nat → ClassId, (tysC cA)[t + 1]? = some (cA (t + 1), .object C0)) (hw : Cond.classLink M.1.cls idx C0 ∈ WS) (ho : Cond.arrayOver (.object C0) ∈ lw_tbl) (hz : Zr me sh.length) (h0 : n0 ≤ sh.length) (hb : sh.length < 999999) (hL : Rfs sh.length L) (hst : Rfs sh.length st) (hcs : cs + 1 ≤ mc) (hsl : sl + N ≤ ms)
    (k : Wa M sx d mc ms n0 Q np L (.ref sh.length :: st) (sh ++ [.inr (t + 1, N)]) me (cs + 1) (sl + N)) : Wa M sx d mc ms n0 Q pc L (.int v :: st) sh me cs sl := by
  subst hn
  subst hv
  intro l p e R s m args below meth c D cA adr0 A Z C adr H locs ls he hP hD hS hL0
  have hR := C.2.2.2.2.2.1
  refine va_newq (C := C0) (N' := N) C.1.1 C.1.2.1 C.1.2.2.2.2 (C.2.1 _ hw) (C.2.2.1 _ ho rfl) C.2.2.2.1 hP hD hS C.2.2.2.2.1 (Int32.not_lt.mpr (nI_pos' (by omega))) (nI_clamp (by omega)) (by omega) (by omega) (by omega) hd (fun q cA' H1 hK1 hP1 hD1 hS1 => ?_)
  obtain ⟨kA, comp, -, -, -, f1⟩ := (hK1.2 4 (cA', .object C0) rfl).2
  obtain ⟨kB, comp2, -, -, -, f2⟩ := (C.2.2.2.1.2 (t + 1) (cA (t + 1), .object C0) (hT cA)).2
  have ha : cA' = cA (t + 1) := Option.some.inj (f1.symm.trans f2)
  subst ha
  refine wa_made C he hL0 hz h0 hb hL hst (fun adr' => ?_) hP1 hD1 hS1 k
  show Sum.inl (cA (t + 1), N, Sum.inr (Sum.inr (Sum.inr (Sum.inr (fun i => (gR me sh.length i).map adr'))))) = _
  have e2 : gR me sh.length = fun _ => none := (hz.1 _ (Nat.le_refl _)).2
  rw [e2]
  rfl
theorem wl_aastore {a b n t ci : Nat} {r : vw_C} {i : Int32} (hd : decode M.2.1 pc = .ok (.aastore, 1)) (hn : pc + 1 = np) (hs : sh[a]? = some (.inr (t + 1, n))) (hT : ∀ cA : Nat → ClassId, (tysC cA)[t + 1]? = some (cA (t + 1), .object r.1)) (hb : sh[b]? = some (.inl ci)) (hc : vwCl[ci]? = some r) (hi : vp_in i n)
    (k : Wa M sx d mc ms n0 Q np L st sh (uR me a i.toNatClampNeg (some b)) cs sl) : Wa M sx d mc ms n0 Q pc L (.ref b :: .int i :: .ref a :: st) sh me cs sl := by
  subst hn
  intro l p e R s m args below meth c D cA adr0 A Z C adr H locs ls he hP hD hS hL0
  refine va_astq C.1.1 C.1.2.1 C.2.2.2.1 hP hD hS a (t + 1) b ci (wl_get hs) (hT cA) (wl_get hb) hc hi hd (fun H1 locs1 hP1 hD1 hS1 => ?_)
  have ew := wl_setQ (cA := cA) (adr := adr) (me := me) (i := i.toNatClampNeg) (v := b) hs
  rw [ew] at hP1 hD1
  exact k l p e R s m args below meth c D cA adr0 A Z C adr H1 locs1 ls he hP1 hD1 hS1 hL0
theorem wl_putrF {idx ci j a b : Nat} (hd : decode M.2.1 pc = .ok (.putfield idx, 3)) (hn : pc + 3 = np) (hf : FLk M.1.cls idx ci j) (hfin : ∀ (C : String) (T : u_T) (N : Nat), vwCl[ci]? = some (C, T, N) → (T j).2.2.2 = true ∧ C = M.1.cls) (hin : M.1.name = "<init>") (h0 : fk ci j = 1) (hs : sh[a]? = some (.inl ci))
    (k : Wa M sx d mc ms n0 Q np L st sh (uR me a j (some b)) cs sl) : Wa M sx d mc ms n0 Q pc L (.ref b :: .ref a :: st) sh me cs sl := by
  subst hn
  intro l p e R s m args below meth c D cA adr0 A Z C adr H locs ls he hP hD hS hL
  obtain ⟨C0, T, N, ty, h1, h2, h3, h4, h5, h6, h7, h8, h9⟩ := hf
  obtain ⟨f1, f2⟩ := hfin _ _ _ h1
  have hty : refKind (ty j) = true := by
    rcases h9 with h | h | h
    · rw [h0] at h; cases h.1
    · rw [h0] at h; cases h.1
    · exact h.2
  refine va_putF (C := C0) (T := T) (N := N) (ref := C0) (ty := ty j) (v := .ref (adr b)) C.1.1 C.1.2.1 C.2.1 h6 ty h7 h8 C.1.2.2.2.2 C.2.2.2.1 hP hD hS a (wl_get hs) h1 j h3 (C.2.1 _ h4) (fun x hx => by rw [h5] at hx; exact hx) f1 (C.1.2.2.2.1.trans hin) (h5.trans f2) (h7 j h3) (by cases hq : ty j <;> rw [hq] at hty <;> first | rfl | cases hty) (by cases hq : ty j <;> rw [hq] at hty <;> first | rfl | cases hty) (by simpa using (h2 ▸ h3)) hd (fun H1 locs1 hP1 hD1 hS1 => ?_)
  have ew := wl_setR (cA := cA) (adr := adr) (me := me) (r := some b) (j := j) hs h0
  rw [show va_rf ((some b).map adr) = Value.ref (adr b) from rfl] at ew
  rw [ew] at hP1 hD1
  exact k l p e R s m args below meth c D cA adr0 A Z C adr H1 locs1 ls he hP1 hD1 hS1 hL
theorem wl_obj {idx a : Nat} (hd : decode M.2.1 pc = .ok (.invokespecial idx, 3)) (hn : pc + 3 = np) (hw : Cond.methodLink M.1.cls idx objectInit ∈ WS) (hroom : (st.map (fun v => v.category)).sum ≤ 8) (hdd : 1 ≤ d) (k : Wa M sx d mc ms n0 Q np L st sh me cs sl) : Wa M sx d mc ms n0 Q pc L (.ref a :: st) sh me cs sl := by
  subst hn
  intro l p e R s m args below meth c D cA adr0 A Z C adr H locs ls he hP hD hS hL
  have hR := C.2.2.2.2.2.1
  refine W.objInit (g := F0 m pc ls (Value.ref (adr a) :: st.map (cv adr))) C.1.1 C.1.2.1 C.1.2.2.2.2 (C.2.1 _ hw) (C.2.1 _ wl0_inst) (C.2.1 _ wl0_code) rfl (hL.1.trans C.1.2.2.1.symm) rfl hd (by omega) ?_ (k l p e R s m args below meth c D cA adr0 A Z C adr H locs ls he hP hD hS hL)
  rw [cat_sum]
  have e0 : (F0 m pc ls (Value.ref (adr a) :: st.map (cv adr))).monitorRoom = 0 := rfl
  omega
/-! ===== constructors ===== -/
def CN (d mc ms : Nat) (M : MR) (sh : List Shp) (vs : List Value) (me : Mem) (sh' : List Shp) (me' : Mem) : Prop := CallsG d mc ms M sh vs me (fun r s m => r = none ∧ s = sh' ∧ m = me')
def LkI (own : String) (idx : Nat) (M : MR) (n : Nat) : Prop := Cond.methodLink own idx M.1 ∈ WS ∧ Cond.instanceMethod M.1 ∈ WS ∧ M.1.name = "<init>" ∧ MOk M n ∧ M.2.2.2 = none
def LkIN (own : String) (idx : Nat) (M : MR) (n : Nat) (host : String) : Prop := Cond.methodLinkNest own idx M.1 host ∈ lw_tbl ∧ Cond.instanceMethod M.1 ∈ WS ∧ M.1.name = "<init>" ∧ MOk M n ∧ M.2.2.2 = none
theorem wa_backN {l : Launch} {p : Program} {e : Env} {R : Room} {s : State} {m : MethodId} {args : Array Value} {below : List Frame} {meth : Method} {c : Code} {D : va_G} {cA : Nat → ClassId} {adr0 : Nat → Nat} {A : Nat → Prop} {Z : State → Prop} (C : Cx M sx d mc ms n0 Q l p e R s m args below meth c D cA adr0 A Z)
    {adr : Nat → Nat} {H : Heap} {locs : List Loc} {ls : Array Slot} (he : ext n0 sh.length adr0 adr) (hD : va_D A (wl sh cA adr me)) (hS : va_S A s.heap H locs) (hL : Lr adr L ls M.2.2.1) {sh' : List Shp} {me' : Mem} {aa : Array Value} {sk : List Value} {mc' ms' : Nat}
    (hr : va_Run p l e R s m args below meth c H locs cs sl mc' ms' (F0 m pc ls sk) (st.map (cv adr)) ((fun _ st oc t => (∃ (r : Option Value) (sh1 : List Shp) (me1 : Mem) (adr' : Nat → Nat), oc = .returned r ∧ (r = none ∧ sh1 = sh' ∧ me1 = me') ∧ ext sh.length sh1.length adr adr' ∧ va_P D vwCl (wl sh1 cA adr' me1) t.heap ∧ va_D (va_A (wl sh cA adr me) H.size) (wl sh1 cA adr' me1)) ∧ va_F (va_A (wl sh cA adr me) H.size) st t) aa) (va_A (wl sh cA adr me) H.size))
    (hlen : sh.length ≤ sh'.length) (hb : sh'.length ≤ 999999) (h0 : n0 ≤ sh.length) (hLr : Rfs sh.length L) (hst : Rfs sh.length st)
    (k : Wa M sx d mc ms n0 Q (pc + 3) L st sh' me' (cs + mc') (sl + ms')) : W p l e R s m args below meth c H locs cs sl Z (F0 m pc ls sk) := by
  intro T hT X
  obtain ⟨v, st₀, t, T', L', hh, X', hL', e1, e2, ⟨⟨r, sh1, me1, adr', hv, ⟨rfl, rfl, rfl⟩, hext, hP1, hD1⟩, hz, hk⟩, stp⟩ := hr T hT X
  cases hv
  rw [hh] at hz hk
  have hfree : ∀ q, va_A (wl sh cA adr me) H.size q → A q := by
    intro q hq
    rcases hq with ⟨i, ee, hi⟩ | hq
    · exact hD.2 i _ hi
    · exact C.2.2.2.2.1 q (Nat.le_trans hS.1 hq)
  have hS1 : va_S A s.heap T'.heap (locs ++ L') := ⟨Nat.le_trans hS.1 (by rw [e1]; exact hz), fun q h1 h2 => by
      rw [e1, hk q (Nat.lt_of_lt_of_le h1 hS.1) (fun z => h2 (hfree q z))]; exact hS.2.1 q h1 h2, fun q hq => by
      rcases List.mem_append.mp hq with h | h
      · exact hS.2.2 q h
      · exact hfree _ (hL' q h)⟩
  have kk := k l p e R s m args below meth c D cA adr0 A Z C adr' T'.heap (locs ++ L') ls (ext_tr he hext h0 hlen) (by rw [e1]; exact hP1) (hD1.weaken (fun i q _ h => hfree _ h)) hS1 (hL.moved (fun v hv => cv_ext hext hb (hLr v hv)))
  rw [cvs_ext hext hb hst] at kk
  obtain ⟨t2, a1, b1⟩ := kk T' rfl X'
  exact ⟨t2, stp t2 a1, b1⟩
theorem wa_callI {idx d' b mc' ms' : Nat} {M' : MR} {sh' : List Shp} {me' : Mem} (hd : decode M.2.1 pc = .ok (.invokespecial idx, 3)) (hn : pc + 3 = np) (hl : LkI M.1.cls idx M' 0) (hroom : (st.map (fun v => v.category)).sum ≤ 8) (hdd : d' + 1 ≤ d) (hcs : cs + mc' ≤ mc) (hsl : sl + ms' ≤ ms) (hlen : sh.length ≤ sh'.length) (hb : sh'.length ≤ 999999) (h0 : n0 ≤ sh.length) (hLr : Rfs sh.length L) (hst : Rfs sh.length st)
    (hc : CN d' mc' ms' M' sh [.ref b] me sh' me') (k : Wa M sx d mc ms n0 Q np L st sh' me' (cs + mc') (sl + ms')) : Wa M sx d mc ms n0 Q pc L (.ref b :: st) sh me cs sl := by
  subst hn
  intro l p e R s m args below meth c D cA adr0 A Z C adr H locs ls he hP hD hS hL
  obtain ⟨y, by', maxL, ret⟩ := M'
  obtain ⟨h1, h2, h4, h3, h5⟩ := hl
  dsimp only at h1 h2 h4 h5
  subst h5
  refine wa_backN (aa := (Value.ref (adr b) :: []).toArray) C he hD hS hL ?_ hlen hb h0 hLr hst k
  have hR := C.2.2.2.2.2.1
  have hm3 : maxL ≤ 29 := h3.2.2.1
  exact va_runI (b := adr b) (As := []) (Ts := WS) (bytes := by') (maxL := maxL) (ws := wsM (y, by', maxL, none)) (rm := rmD d' mc' ms') (n := 0) ⟨C.1.1, C.1.2.1, C.1.2.2.1, C.1.2.2.2.2, C.2.1⟩ (hc l D cA adr H.size) ⟨callB_of 0 C.2.1 (goodInWS h3) rfl rfl rfl (C.2.1 _ h3.2.2.2) (C.2.1 _ h1) h3.2.1 ⟨by show d' + 1 ≤ R.frames; omega, by show 8 + (maxL + 11) + 48 * d' ≤ R.locals; omega⟩, h4, C.2.1 _ h2⟩
    ⟨pc_blind, fun U hU hW => ⟨rfl, by rw [hU], by rw [hU]; exact hP, va_K.moved hW.alike C.2.2.2.1, hD.weaken (fun _ _ _ _ => trivial), Nst.warm hW C.2.2.1⟩⟩ rfl rfl hL.1 rfl (st_room hroom) hd ⟨by omega, by omega⟩
theorem wa_callIN {idx d' b mc' ms' : Nat} {host : String} {M' : MR} {sh' : List Shp} {me' : Mem} (hd : decode M.2.1 pc = .ok (.invokespecial idx, 3)) (hn : pc + 3 = np) (hl : LkIN M.1.cls idx M' 0 host) (hroom : (st.map (fun v => v.category)).sum ≤ 8) (hdd : d' + 1 ≤ d) (hcs : cs + mc' ≤ mc) (hsl : sl + ms' ≤ ms) (hlen : sh.length ≤ sh'.length) (hb : sh'.length ≤ 999999) (h0 : n0 ≤ sh.length) (hLr : Rfs sh.length L) (hst : Rfs sh.length st)
    (hc : CN d' mc' ms' M' sh [.ref b] me sh' me') (k : Wa M sx d mc ms n0 Q np L st sh' me' (cs + mc') (sl + ms')) : Wa M sx d mc ms n0 Q pc L (.ref b :: st) sh me cs sl := by
  subst hn
  intro l p e R s m args below meth c D cA adr0 A Z C adr H locs ls he hP hD hS hL
  obtain ⟨y, by', maxL, ret⟩ := M'
  obtain ⟨h1, h2, h4, h3, h5⟩ := hl
  dsimp only at h1 h2 h4 h5
  subst h5
  refine wa_backN (aa := (Value.ref (adr b) :: []).toArray) C he hD hS hL ?_ hlen hb h0 hLr hst k
  have hR := C.2.2.2.2.2.1
  have hm3 : maxL ≤ 29 := h3.2.2.1
  exact va_runIN (b := adr b) (As := []) (Ts := WS) (bytes := by') (maxL := maxL) (ws := wsM (y, by', maxL, none)) (rm := rmD d' mc' ms') (n := 0) ⟨C.1.1, C.1.2.1, C.1.2.2.1, C.1.2.2.2.2, C.2.1⟩ (hc l D cA adr H.size) ⟨va_cnB 0 C.2.1 (goodInWS h3) rfl rfl rfl (C.2.2.1 _ h1 rfl) (C.2.1 _ h3.2.2.2) h3.2.1 ⟨by show d' + 1 ≤ R.frames; omega, by show 8 + (maxL + 11) + 48 * d' ≤ R.locals; omega⟩, h4, C.2.1 _ h2⟩
    ⟨pc_blind, fun U hU hW => ⟨rfl, by rw [hU], by rw [hU]; exact hP, va_K.moved hW.alike C.2.2.2.1, hD.weaken (fun _ _ _ _ => trivial), Nst.warm hW C.2.2.1⟩⟩ rfl rfl hL.1 rfl (st_room hroom) hd ⟨by omega, by omega⟩
end MAKE
