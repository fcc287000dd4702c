/-! ===== the abstract memory: numbered cells; ints by (cell, place), references by (cell, place) ===== -/
abbrev Shp : Type := Nat ⊕ (Nat × Nat)
abbrev Mem : Type := (Nat → Nat → Int32) × (Nat → Nat → Option Nat)
def gI (me : Mem) (k i : Nat) : Int32 := me.1 k i
def gR (me : Mem) (k i : Nat) : Option Nat := me.2 k i
def uA (me : Mem) (k : Nat) (f : Nat → Int32) : Mem := (fun a => if a = k then f else me.1 a, me.2)
def uI (me : Mem) (k i : Nat) (x : Int32) : Mem := uA me k (upd (gI me k) i x)
def uR (me : Mem) (k i : Nat) (r : Option Nat) : Mem := (me.1, fun a => if a = k then va_up (gR me k) i r else me.2 a)
def nwM (me : Mem) (k : Nat) : Mem := (fun a => if a = k then fun _ => 0 else me.1 a, fun a => if a = k then fun _ => none else me.2 a)
theorem gI_uA (me : Mem) (k : Nat) (f : Nat → Int32) (a b : Nat) : gI (uA me k f) a b = if a = k then f b else gI me a b := by
  unfold gI uA; dsimp only; split <;> rfl
theorem gI_uI (me : Mem) (k i : Nat) (x : Int32) (a b : Nat) : gI (uI me k i x) a b = if a = k ∧ b = i then x else gI me a b := by
  unfold uI; rw [gI_uA]
  by_cases h : a = k
  · subst h
    by_cases h2 : b = i <;> simp [upd, h2]
  · simp [h]
theorem gR_uA (me : Mem) (k : Nat) (f : Nat → Int32) (a b : Nat) : gR (uA me k f) a b = gR me a b := rfl
theorem gR_uI (me : Mem) (k i : Nat) (x : Int32) (a b : Nat) : gR (uI me k i x) a b = gR me a b := rfl
theorem gI_uR (me : Mem) (k i : Nat) (r : Option Nat) (a b : Nat) : gI (uR me k i r) a b = gI me a b := rfl
theorem gR_uR (me : Mem) (k i : Nat) (r : Option Nat) (a b : Nat) : gR (uR me k i r) a b = if a = k ∧ b = i then r else gR me a b := by
  unfold gR uR; dsimp only
  by_cases h : a = k
  · subst h
    by_cases h2 : b = i <;> simp [va_up, h2, gR]
  · simp [h]
/-! the tables: how many fields, which are references (1), truths (2) -/
def fkT : List (List Nat) := [[1, 0, 0], [1, 1, 1, 1, 1, 0, 0, 0, 0, 0], [1, 1, 1, 1, 0, 0, 0], [1, 2, 0, 0], [1, 0, 0], [1, 1, 1, 1, 0, 0, 0, 0, 0, 0], [1, 1, 1, 1, 1, 1, 1, 1, 2], [0, 1, 1, 1, 1, 1, 1, 0, 0, 0, 1, 1, 1, 0, 0, 2, 1, 1, 1, 0, 0, 1, 1, 2, 1, 1, 1, 1]]
def fn (ci : Nat) : Nat := (fkT.getD ci []).length
def fk (ci j : Nat) : Nat := (fkT.getD ci []).getD j 0
def cv (adr : Nat → Nat) (v : Value) : Value := match v with
  | .ref a => .ref (adr a)
  | .retAddr _ => .ref (adr 999999)
  | v => v
def fval (adr : Nat → Nat) (me : Mem) (k ci j : Nat) : Value := if fk ci j = 1 then va_rf ((gR me k j).map adr) else .int (gI me k j)
def cel (cA : Nat → ClassId) (adr : Nat → Nat) (me : Mem) (k : Nat) (s : Shp) : va_E := match s with
  | .inl ci => .inr (ci, (List.range (fn ci)).map (fval adr me k ci))
  | .inr (0, n) => .inl (cA 0, n, .inl (gI me k))
  | .inr (t + 1, n) => .inl (cA (t + 1), n, .inr (.inr (.inr (.inr (fun i => (gR me k i).map adr)))))
def wl (sh : List Shp) (cA : Nat → ClassId) (adr : Nat → Nat) (me : Mem) : va_W := sh.mapIdx (fun k s => (adr k, cel cA adr me k s))
def tysC (cA : Nat → ClassId) : List (ClassId × FieldType) := [(cA 0, .int), (cA 1, .object "DebtCoats$Person"), (cA 2, .object "DebtCoats$Sheet"), (cA 3, .array .int)]
theorem wl_get {sh : List Shp} {cA : Nat → ClassId} {adr : Nat → Nat} {me : Mem} {k : Nat} {s : Shp} (h : sh[k]? = some s) : (wl sh cA adr me)[k]? = some (adr k, cel cA adr me k s) := by
  simp [wl, h]
theorem wl_iff {sh : List Shp} {cA : Nat → ClassId} {adr : Nat → Nat} {me : Mem} {k : Nat} {q : Nat × va_E} (h : (wl sh cA adr me)[k]? = some q) : ∃ s, sh[k]? = some s ∧ q = (adr k, cel cA adr me k s) := by
  simp only [wl, List.getElem?_mapIdx] at h
  cases hs : sh[k]? with
  | none => rw [hs] at h; cases h
  | some s => rw [hs] at h; exact ⟨s, rfl, (Option.some.inj h).symm⟩
theorem wl_set {sh : List Shp} {cA : Nat → ClassId} {adr : Nat → Nat} {me me' : Mem} {k : Nat} {s : Shp} {e : va_E} (h : sh[k]? = some s) (he : cel cA adr me' k s = e) (ho : ∀ (j : Nat) (t : Shp), j ≠ k → cel cA adr me' j t = cel cA adr me j t) : (wl sh cA adr me).set k (adr k, e) = wl sh cA adr me' := by
  apply List.ext_getElem?
  intro i
  have hk : k < sh.length := (List.getElem?_eq_some_iff.mp h).1
  rw [List.getElem?_set]
  by_cases hi : k = i
  · subst hi
    rw [if_pos rfl, wl_get (me := me') h, he, if_pos (by simpa [wl] using hk)]
  · rw [if_neg hi]
    simp only [wl, List.getElem?_mapIdx]
    cases sh[i]? with
    | none => rfl
    | some t => simp only [Option.map_some]; rw [ho i t (Ne.symm hi)]
theorem cel_uA_ne {cA : Nat → ClassId} {adr : Nat → Nat} {me : Mem} {k : Nat} {f : Nat → Int32} (j : Nat) (t : Shp) (h : j ≠ k) : cel cA adr (uA me k f) j t = cel cA adr me j t := by
  have e1 : gI (uA me k f) j = gI me j := by funext b; rw [gI_uA, if_neg h]
  have e2 : gR (uA me k f) j = gR me j := rfl
  match t with
  | .inl ci => simp only [cel]; congr 2; apply List.map_congr_left; intro x _; simp only [fval, e1, e2]
  | .inr (0, n) => simp only [cel, e1]
  | .inr (t + 1, n) => rfl
theorem cel_uR_ne {cA : Nat → ClassId} {adr : Nat → Nat} {me : Mem} {k i : Nat} {r : Option Nat} (j : Nat) (t : Shp) (h : j ≠ k) : cel cA adr (uR me k i r) j t = cel cA adr me j t := by
  have e1 : gI (uR me k i r) j = gI me j := rfl
  have e2 : gR (uR me k i r) j = gR me j := by funext b; rw [gR_uR]; simp [h]
  match t with
  | .inl ci => simp only [cel]; congr 2; apply List.map_congr_left; intro x _; simp only [fval, e1, e2]
  | .inr (0, n) => simp only [cel, e1]
  | .inr (t + 1, n) => simp only [cel, e2]
theorem wl_setA {sh : List Shp} {cA : Nat → ClassId} {adr : Nat → Nat} {me : Mem} {k n : Nat} {f : Nat → Int32} (h : sh[k]? = some (.inr (0, n))) : (wl sh cA adr me).set k (adr k, .inl (cA 0, n, .inl f)) = wl sh cA adr (uA me k f) := by
  refine wl_set h ?_ (fun j t hj => cel_uA_ne j t hj)
  simp only [cel]
  have e1 : gI (uA me k f) k = f := by funext b; rw [gI_uA, if_pos rfl]
  rw [e1]
theorem range_map_set {α : Type} (n j : Nat) (f : Nat → α) (v : α) : ((List.range n).map f).set j v = (List.range n).map (fun i => if i = j then v else f i) := by
  apply List.ext_getElem?
  intro i
  rw [List.getElem?_set]
  by_cases hi : i < n
  · by_cases hj : j = i
    · subst hj; simp [hi]
    · rw [if_neg hj]; simp [hi, Ne.symm hj]
  · by_cases hj : j = i
    · subst hj; simp [hi]
    · rw [if_neg hj]; simp [hi]
theorem wl_setI {sh : List Shp} {cA : Nat → ClassId} {adr : Nat → Nat} {me : Mem} {k ci j : Nat} {x : Int32} (h : sh[k]? = some (.inl ci)) (hf : fk ci j ≠ 1) : (wl sh cA adr me).set k (adr k, .inr (ci, ((List.range (fn ci)).map (fval adr me k ci)).set j (.int x))) = wl sh cA adr (uI me k j x) := by
  refine wl_set h ?_ (fun i t hi => cel_uA_ne i t hi)
  simp only [cel]
  congr 2
  rw [range_map_set]
  apply List.map_congr_left
  intro i _
  by_cases hi : i = j
  · subst hi; simp [fval, hf, gI_uI]
  · simp only [fval, gI_uI, hi, and_false, if_false, gR_uI]
theorem wl_setR {sh : List Shp} {cA : Nat → ClassId} {adr : Nat → Nat} {me : Mem} {k ci j : Nat} {r : Option Nat} (h : sh[k]? = some (.inl ci)) (hf : fk ci j = 1) : (wl sh cA adr me).set k (adr k, .inr (ci, ((List.range (fn ci)).map (fval adr me k ci)).set j (va_rf (r.map adr)))) = wl sh cA adr (uR me k j r) := by
  refine wl_set h ?_ (fun i t hi => cel_uR_ne i t hi)
  simp only [cel]
  congr 2
  rw [range_map_set]
  apply List.map_congr_left
  intro i _
  by_cases hi : i = j
  · subst hi; simp [fval, hf, gR_uR]
  · simp only [fval, gI_uR, hi, and_false, if_false, gR_uR]
theorem wl_setQ {sh : List Shp} {cA : Nat → ClassId} {adr : Nat → Nat} {me : Mem} {k n t i v : Nat} (h : sh[k]? = some (.inr (t + 1, n))) : (wl sh cA adr me).set k (adr k, .inl (cA (t + 1), n, .inr (.inr (.inr (.inr (va_up (fun i => (gR me k i).map adr) i (some (adr v)))))))) = wl sh cA adr (uR me k i (some v)) := by
  refine wl_set h ?_ (fun j t hj => cel_uR_ne j t hj)
  simp only [cel]
  have ef : (fun b => (gR (uR me k i (some v)) k b).map adr) = va_up (fun i => (gR me k i).map adr) i (some (adr v)) := by
    funext b
    by_cases hb : b = i
    · subst hb; simp [gR_uR, va_up]
    · simp [gR_uR, va_up, hb]
  rw [ef]
/-! ===== words ===== -/
def WS : List Cond := lw_tbl.filter goodWord
theorem inWS {w : Cond} (i : Nat) (h : lw_tbl[i]? = some w) (g : goodWord w = true) : w ∈ WS := List.mem_filter.mpr ⟨List.mem_of_getElem? h, g⟩
def isNst (w : Cond) : Bool := match w with
  | .methodLinkNest _ _ _ _ => true
  | .arrayOver (.object _) => true
  | .arrayOver (.array _) => true
  | _ => false
def Nst (U : State) : Prop := ∀ w ∈ lw_tbl, isNst w = true → va_Nw w U
theorem Nst.warm {s U : State} (hW : s.WarmedH U.vm) (h : Nst s) : Nst U := by
  intro w hw hn
  have h1 := h w hw hn
  cases w with
  | methodLinkNest a i x h => exact va_Nw.warmM hW h1
  | arrayOver t =>
    cases t with
    | object C => exact va_AO.moved (C := C) hW.alike h1
    | array t => exact over_moved (a := #[]) hW.alike h1
    | _ => exact absurd hn (by simp [isNst])
  | _ => exact absurd hn (by simp [isNst])
theorem Nst.same {s U : State} (he : s.vm = U.vm) (h : Nst s) : Nst U := by
  intro w hw hn
  have h1 := h w hw hn
  have ha : s.vm.Alike U.vm := by
    rw [he]
    exact Vm.Alike.refl _
  cases w with
  | methodLinkNest a i x h => exact va_Nw.same rfl he h1
  | arrayOver t =>
    cases t with
    | object C => exact va_AO.moved (C := C) ha h1
    | array t => exact over_moved (a := #[]) ha h1
    | _ => exact absurd hn (by simp [isNst])
  | _ => exact absurd hn (by simp [isNst])
abbrev MR : Type := MethodName × ByteArray × Nat × Option FieldType
def wsM (M : MR) : List Cond := Cond.code M.1 M.2.1 M.2.2.1 M.2.2.2 :: WS
def rmD (d mc ms : Nat) : Room := { frames := d, cells := mc, slots := ms, locals := 48 * d }
/-! ===== locals: a list of values, .float 0 where nothing is known ===== -/
def Lr (adr : Nat → Nat) (L : List Value) (ls : Array Slot) (n : Nat) : Prop := ls.size = n ∧ lv_wf ls ∧ ∀ (i : Nat) (v : Value), L[i]? = some v → v ≠ .float 0 → ls[i]? = some (.val (cv adr v))
theorem cv_cat (adr : Nat → Nat) (v : Value) : (cv adr v).category = v.category := by cases v <;> rfl
def las (adr : Nat → Nat) (L : List Value) : List (Nat × Value) := (List.range L.length).filterMap (fun i => (L[i]?).bind (fun v => if v = .float 0 then none else some (i, cv adr v)))
theorem las_mem {adr : Nat → Nat} {L : List Value} {q : Nat × Value} : q ∈ las adr L ↔ ∃ v, L[q.1]? = some v ∧ v ≠ .float 0 ∧ q.2 = cv adr v := by
  unfold las
  rw [List.mem_filterMap]
  constructor
  · rintro ⟨i, -, h⟩
    cases hv : L[i]? with
    | none => rw [hv] at h; cases h
    | some v =>
      rw [hv] at h
      simp only [Option.bind_some] at h
      split at h
      · cases h
      · rename_i hne
        cases h
        exact ⟨v, hv, hne, rfl⟩
  · rintro ⟨v, h1, h2, h3⟩
    refine ⟨q.1, List.mem_range.mpr (List.getElem?_eq_some_iff.mp h1).1, ?_⟩
    rw [h1]
    simp only [Option.bind_some, if_neg h2, ← h3]
theorem Lr.has {adr : Nat → Nat} {L : List Value} {ls : Array Slot} {n : Nat} (h : Lr adr L ls n) : lv_has ls n (las adr L) := by
  refine ⟨h.1, h.2.1, fun q hq => ?_⟩
  obtain ⟨v, h1, h2, h3⟩ := las_mem.mp hq
  rw [h3]
  exact h.2.2 q.1 v h1 h2
theorem Lr.get {adr : Nat → Nat} {L : List Value} {ls : Array Slot} {n i : Nat} {v : Value} (h : Lr adr L ls n) (hv : L[i]? = some v) (hne : v ≠ .float 0) : ls[i]? = some (.val (cv adr v)) := h.2.2 i v hv hne
theorem Lr.set1 {adr : Nat → Nat} {L : List Value} {ls' : Array Slot} {n i : Nat} {v : Value} (h' : lv_has ls' n ((i, cv adr v) :: (las adr L).filter (fun q => !(q.1 == i) && !(q.1 + 1 == i && q.2.category == 2)))) (hp : ∀ w, 0 < i → L[i - 1]? = some w → w.category = 1) : Lr adr (L.set i v) ls' n := by
  refine ⟨h'.1, h'.2.1, fun j w hj hw => ?_⟩
  by_cases hji : j = i
  · subst hji
    rw [List.getElem?_set_self'] at hj
    cases hL : L[j]? with
    | none => rw [hL] at hj; cases hj
    | some u =>
      rw [hL] at hj
      cases hj
      exact h'.2.2 (j, cv adr v) List.mem_cons_self
  · rw [List.getElem?_set_ne (Ne.symm hji)] at hj
    refine h'.2.2 (j, cv adr w) (List.mem_cons_of_mem _ (List.mem_filter.mpr ⟨las_mem.mpr ⟨w, hj, hw, rfl⟩, ?_⟩))
    have h1 : (j == i) = false := by simp [hji]
    by_cases h2 : j + 1 = i
    · subst h2
      have h3 := hp w (by omega) (by simpa using hj)
      simp [cv_cat, h3]
    · simp [h1, h2]
theorem Lr.moved {adr adr' : Nat → Nat} {L : List Value} {ls : Array Slot} {n : Nat} (h : Lr adr L ls n) (he : ∀ v ∈ L, cv adr' v = cv adr v) : Lr adr' L ls n := ⟨h.1, h.2.1, fun i v hv hn => by rw [he v (List.mem_of_getElem? hv)]; exact h.2.2 i v hv hn⟩
/-! ===== the judgement ===== -/
def ext (n n' : Nat) (a b : Nat → Nat) : Prop := ∀ k, k < n ∨ n' ≤ k → b k = a k
def RetOK (M : MR) (v : Option Value) (pc : Nat) : Prop := match v with
  | none => decode M.2.1 pc = .ok (.return_, 1) ∧ M.2.2.2 = none
  | some (.int x) => decode M.2.1 pc = .ok (.ireturn, 1) ∧ ∃ ty, M.2.2.2 = some ty ∧ narrow ty (.int x) = .int x
  | _ => False
abbrev Post : Type := Option Value → List Shp → Mem → Prop
abbrev Scr : Type := Nat × (Nat → Int32)
def Cx (M : MR) (sx : Scr) (d mc ms n0 : Nat) (Q : Post) (l : Launch) (p : Program) (e : Env) (R : Room) (s : State) (m : MethodId) (args : Array Value) (below : List Frame) (meth : Method) (c : Code) (D : va_G) (cA : Nat → ClassId) (adr0 : Nat → Nat) (A : Nat → Prop) (Z : State → Prop) : Prop :=
  (p.tables.exec = Jvm.exec ∧ c.code = M.2.1 ∧ c.maxLocals = M.2.2.1 ∧ meth.name = M.1.name ∧ s.vm.findClass M.1.cls = some m.cls) ∧ (∀ w ∈ WS, w.before args s = true) ∧ Nst s ∧ va_K D vwCl (tysC cA) s ∧ (∀ q, s.heap.size ≤ q → A q) ∧ (d ≤ R.frames ∧ 48 * d ≤ R.locals ∧ mc ≤ R.cells ∧ ms ≤ R.slots) ∧
  (sx.1 = 0 ∨ (va_X (adr0 999999) (sx.1 - 1) sx.2 s s.heap ∧ adr0 999999 < s.heap.size ∧ ¬ A (adr0 999999))) ∧
  (∀ (v : Option Value) (sh : List Shp) (me : Mem) (adr : Nat → Nat) (H : Heap) (locs : List Loc) (ls : Array Slot) (pc : Nat), Q v sh me → RetOK M v pc → ext n0 sh.length adr0 adr → va_P D vwCl (wl sh cA adr me) H → va_D A (wl sh cA adr me) → va_S A s.heap H locs → W p l e R s m args below meth c H locs mc ms Z (F0 m pc ls v.toList))
def Wa (M : MR) (sx : Scr) (d mc ms n0 : Nat) (Q : Post) (pc : Nat) (L st : List Value) (sh : List Shp) (me : Mem) (cs sl : Nat) : Prop :=
  ∀ (l : Launch) (p : Program) (e : Env) (R : Room) (s : State) (m : MethodId) (args : Array Value) (below : List Frame) (meth : Method) (c : Code) (D : va_G) (cA : Nat → ClassId) (adr0 : Nat → Nat) (A : Nat → Prop) (Z : State → Prop), Cx M sx d mc ms n0 Q l p e R s m args below meth c D cA adr0 A Z →
  ∀ (adr : Nat → Nat) (H : Heap) (locs : List Loc) (ls : Array Slot), ext n0 sh.length adr0 adr → va_P D vwCl (wl sh cA adr me) H → va_D A (wl sh cA adr me) → va_S A s.heap H locs → Lr adr L ls M.2.2.1 → W p l e R s m args below meth c H locs cs sl Z (F0 m pc ls (st.map (cv adr)))
section RULES
variable {M : MR} {sx : Scr} {d mc ms n0 : Nat} {Q : Post} {pc np tg : Nat} {L st : List Value} {sh : List Shp} {me : Mem} {cs sl : Nat}
theorem wl_iadd {x y : Int32} (hd : decode M.2.1 pc = .ok (.iadd, 1)) (hn : pc + 1 = np) (k : Wa M sx d mc ms n0 Q np L (.int (x + y) :: st) sh me cs sl) : Wa M sx d mc ms n0 Q pc L (.int y :: .int x :: st) sh me cs sl := by
  subst hn
  intro l p e R s m args below meth c D cA adr0 A Z C adr H locs ls he hP hD hS hL
  exact lv_iadd C.1.1 C.1.2.1 hd  (k l p e R s m args below meth c D cA adr0 A Z C adr H locs ls he hP hD hS hL)
theorem wl_isub {x y : Int32} (hd : decode M.2.1 pc = .ok (.isub, 1)) (hn : pc + 1 = np) (k : Wa M sx d mc ms n0 Q np L (.int (x - y) :: st) sh me cs sl) : Wa M sx d mc ms n0 Q pc L (.int y :: .int x :: st) sh me cs sl := by
  subst hn
  intro l p e R s m args below meth c D cA adr0 A Z C adr H locs ls he hP hD hS hL
  exact lv_isub C.1.1 C.1.2.1 hd  (k l p e R s m args below meth c D cA adr0 A Z C adr H locs ls he hP hD hS hL)
theorem wl_imul {x y : Int32} (hd : decode M.2.1 pc = .ok (.imul, 1)) (hn : pc + 1 = np) (k : Wa M sx d mc ms n0 Q np L (.int (x * y) :: st) sh me cs sl) : Wa M sx d mc ms n0 Q pc L (.int y :: .int x :: st) sh me cs sl := by
  subst hn
  intro l p e R s m args below meth c D cA adr0 A Z C adr H locs ls he hP hD hS hL
  exact lv_imul C.1.1 C.1.2.1 hd  (k l p e R s m args below meth c D cA adr0 A Z C adr H locs ls he hP hD hS hL)
theorem wl_iand {x y : Int32} (hd : decode M.2.1 pc = .ok (.iand, 1)) (hn : pc + 1 = np) (k : Wa M sx d mc ms n0 Q np L (.int (x &&& y) :: st) sh me cs sl) : Wa M sx d mc ms n0 Q pc L (.int y :: .int x :: st) sh me cs sl := by
  subst hn
  intro l p e R s m args below meth c D cA adr0 A Z C adr H locs ls he hP hD hS hL
  exact lv_iand C.1.1 C.1.2.1 hd  (k l p e R s m args below meth c D cA adr0 A Z C adr H locs ls he hP hD hS hL)
theorem wl_ior {x y : Int32} (hd : decode M.2.1 pc = .ok (.ior, 1)) (hn : pc + 1 = np) (k : Wa M sx d mc ms n0 Q np L (.int (x ||| y) :: st) sh me cs sl) : Wa M sx d mc ms n0 Q pc L (.int y :: .int x :: st) sh me cs sl := by
  subst hn
  intro l p e R s m args below meth c D cA adr0 A Z C adr H locs ls he hP hD hS hL
  exact lv_ior C.1.1 C.1.2.1 hd  (k l p e R s m args below meth c D cA adr0 A Z C adr H locs ls he hP hD hS hL)
theorem wl_ixor {x y : Int32} (hd : decode M.2.1 pc = .ok (.ixor, 1)) (hn : pc + 1 = np) (k : Wa M sx d mc ms n0 Q np L (.int (x ^^^ y) :: st) sh me cs sl) : Wa M sx d mc ms n0 Q pc L (.int y :: .int x :: st) sh me cs sl := by
  subst hn
  intro l p e R s m args below meth c D cA adr0 A Z C adr H locs ls he hP hD hS hL
  exact lv_ixor C.1.1 C.1.2.1 hd  (k l p e R s m args below meth c D cA adr0 A Z C adr H locs ls he hP hD hS hL)
theorem wl_ishl {x y : Int32} (hd : decode M.2.1 pc = .ok (.ishl, 1)) (hn : pc + 1 = np) (k : Wa M sx d mc ms n0 Q np L (.int (x <<< (y &&& 31)) :: st) sh me cs sl) : Wa M sx d mc ms n0 Q pc L (.int y :: .int x :: st) sh me cs sl := by
  subst hn
  intro l p e R s m args below meth c D cA adr0 A Z C adr H locs ls he hP hD hS hL
  exact lv_ishl C.1.1 C.1.2.1 hd  (k l p e R s m args below meth c D cA adr0 A Z C adr H locs ls he hP hD hS hL)
theorem wl_ishr {x y : Int32} (hd : decode M.2.1 pc = .ok (.ishr, 1)) (hn : pc + 1 = np) (k : Wa M sx d mc ms n0 Q np L (.int (x >>> (y &&& 31)) :: st) sh me cs sl) : Wa M sx d mc ms n0 Q pc L (.int y :: .int x :: st) sh me cs sl := by
  subst hn
  intro l p e R s m args below meth c D cA adr0 A Z C adr H locs ls he hP hD hS hL
  exact lv_ishr C.1.1 C.1.2.1 hd  (k l p e R s m args below meth c D cA adr0 A Z C adr H locs ls he hP hD hS hL)
theorem wl_idiv {x y : Int32} (hd : decode M.2.1 pc = .ok (.idiv, 1)) (hn : pc + 1 = np) (hne : ¬ y = 0) (k : Wa M sx d mc ms n0 Q np L (.int (x / y) :: st) sh me cs sl) : Wa M sx d mc ms n0 Q pc L (.int y :: .int x :: st) sh me cs sl := by
  subst hn
  intro l p e R s m args below meth c D cA adr0 A Z C adr H locs ls he hP hD hS hL
  exact lv_idiv C.1.1 C.1.2.1 hd hne (k l p e R s m args below meth c D cA adr0 A Z C adr H locs ls he hP hD hS hL)
theorem wl_irem {x y : Int32} (hd : decode M.2.1 pc = .ok (.irem, 1)) (hn : pc + 1 = np) (hne : ¬ y = 0) (k : Wa M sx d mc ms n0 Q np L (.int (x - x / y * y) :: st) sh me cs sl) : Wa M sx d mc ms n0 Q pc L (.int y :: .int x :: st) sh me cs sl := by
  subst hn
  intro l p e R s m args below meth c D cA adr0 A Z C adr H locs ls he hP hD hS hL
  exact lv_irem C.1.1 C.1.2.1 hd hne (k l p e R s m args below meth c D cA adr0 A Z C adr H locs ls he hP hD hS hL)
theorem wl_land {x y : Int64} (hd : decode M.2.1 pc = .ok (.land, 1)) (hn : pc + 1 = np) (k : Wa M sx d mc ms n0 Q np L (.long (x &&& y) :: st) sh me cs sl) : Wa M sx d mc ms n0 Q pc L (.long y :: .long x :: st) sh me cs sl := by
  subst hn
  intro l p e R s m args below meth c D cA adr0 A Z C adr H locs ls he hP hD hS hL
  exact lv_land C.1.1 C.1.2.1 hd  (k l p e R s m args below meth c D cA adr0 A Z C adr H locs ls he hP hD hS hL)
theorem wl_lor {x y : Int64} (hd : decode M.2.1 pc = .ok (.lor, 1)) (hn : pc + 1 = np) (k : Wa M sx d mc ms n0 Q np L (.long (x ||| y) :: st) sh me cs sl) : Wa M sx d mc ms n0 Q pc L (.long y :: .long x :: st) sh me cs sl := by
  subst hn
  intro l p e R s m args below meth c D cA adr0 A Z C adr H locs ls he hP hD hS hL
  exact lv_lor C.1.1 C.1.2.1 hd  (k l p e R s m args below meth c D cA adr0 A Z C adr H locs ls he hP hD hS hL)
theorem wl_ladd {x y : Int64} (hd : decode M.2.1 pc = .ok (.ladd, 1)) (hn : pc + 1 = np) (k : Wa M sx d mc ms n0 Q np L (.long (x + y) :: st) sh me cs sl) : Wa M sx d mc ms n0 Q pc L (.long y :: .long x :: st) sh me cs sl := by
  subst hn
  intro l p e R s m args below meth c D cA adr0 A Z C adr H locs ls he hP hD hS hL
  exact lv_ladd C.1.1 C.1.2.1 hd  (k l p e R s m args below meth c D cA adr0 A Z C adr H locs ls he hP hD hS hL)
theorem wl_lshl {x : Int64} {y : Int32} (hd : decode M.2.1 pc = .ok (.lshl, 1)) (hn : pc + 1 = np) (k : Wa M sx d mc ms n0 Q np L (.long (x <<< (y.toInt64 &&& 63)) :: st) sh me cs sl) : Wa M sx d mc ms n0 Q pc L (.int y :: .long x :: st) sh me cs sl := by
  subst hn
  intro l p e R s m args below meth c D cA adr0 A Z C adr H locs ls he hP hD hS hL
  exact lv_lshl C.1.1 C.1.2.1 hd rfl (k l p e R s m args below meth c D cA adr0 A Z C adr H locs ls he hP hD hS hL)
theorem wl_lshr {x : Int64} {y : Int32} (hd : decode M.2.1 pc = .ok (.lshr, 1)) (hn : pc + 1 = np) (k : Wa M sx d mc ms n0 Q np L (.long (x >>> (y.toInt64 &&& 63)) :: st) sh me cs sl) : Wa M sx d mc ms n0 Q pc L (.int y :: .long x :: st) sh me cs sl := by
  subst hn
  intro l p e R s m args below meth c D cA adr0 A Z C adr H locs ls he hP hD hS hL
  exact lv_lshr C.1.1 C.1.2.1 hd rfl (k l p e R s m args below meth c D cA adr0 A Z C adr H locs ls he hP hD hS hL)
theorem wl_lcmp {x y : Int64} (hd : decode M.2.1 pc = .ok (.lcmp, 1)) (hn : pc + 1 = np) (k : Wa M sx d mc ms n0 Q np L (.int (lg_cmp x y) :: st) sh me cs sl) : Wa M sx d mc ms n0 Q pc L (.long y :: .long x :: st) sh me cs sl := by
  subst hn
  intro l p e R s m args below meth c D cA adr0 A Z C adr H locs ls he hP hD hS hL
  exact W.lcmp C.1.1 C.1.2.1 hd  (k l p e R s m args below meth c D cA adr0 A Z C adr H locs ls he hP hD hS hL)
theorem wl_i2l {x : Int32} (hd : decode M.2.1 pc = .ok (.i2l, 1)) (hn : pc + 1 = np) (k : Wa M sx d mc ms n0 Q np L (.long x.toInt64 :: st) sh me cs sl) : Wa M sx d mc ms n0 Q pc L (.int x :: st) sh me cs sl := by
  subst hn
  intro l p e R s m args below meth c D cA adr0 A Z C adr H locs ls he hP hD hS hL
  exact lv_i2l C.1.1 C.1.2.1 hd rfl (k l p e R s m args below meth c D cA adr0 A Z C adr H locs ls he hP hD hS hL)
theorem wl_l2i {x : Int64} (hd : decode M.2.1 pc = .ok (.l2i, 1)) (hn : pc + 1 = np) (k : Wa M sx d mc ms n0 Q np L (.int x.toInt32 :: st) sh me cs sl) : Wa M sx d mc ms n0 Q pc L (.long x :: st) sh me cs sl := by
  subst hn
  intro l p e R s m args below meth c D cA adr0 A Z C adr H locs ls he hP hD hS hL
  exact lv_l2i C.1.1 C.1.2.1 hd rfl (k l p e R s m args below meth c D cA adr0 A Z C adr H locs ls he hP hD hS hL)
theorem wl_i2b {x : Int32} (hd : decode M.2.1 pc = .ok (.i2b, 1)) (hn : pc + 1 = np) (k : Wa M sx d mc ms n0 Q np L (.int x.toInt8.toInt32 :: st) sh me cs sl) : Wa M sx d mc ms n0 Q pc L (.int x :: st) sh me cs sl := by
  subst hn
  intro l p e R s m args below meth c D cA adr0 A Z C adr H locs ls he hP hD hS hL
  exact lv_i2b C.1.1 C.1.2.1 hd rfl (k l p e R s m args below meth c D cA adr0 A Z C adr H locs ls he hP hD hS hL)
theorem wl_i2s {x : Int32} (hd : decode M.2.1 pc = .ok (.i2s, 1)) (hn : pc + 1 = np) (k : Wa M sx d mc ms n0 Q np L (.int x.toInt16.toInt32 :: st) sh me cs sl) : Wa M sx d mc ms n0 Q pc L (.int x :: st) sh me cs sl := by
  subst hn
  intro l p e R s m args below meth c D cA adr0 A Z C adr H locs ls he hP hD hS hL
  exact lv_i2s C.1.1 C.1.2.1 hd rfl (k l p e R s m args below meth c D cA adr0 A Z C adr H locs ls he hP hD hS hL)
theorem wl_iconst {n : Int} {v : Int32} (hd : decode M.2.1 pc = .ok (.iconst n, 1)) (hn : pc + 1 = np) (hv : Int32.ofInt n = v) (k : Wa M sx d mc ms n0 Q np L (.int v :: st) sh me cs sl) : Wa M sx d mc ms n0 Q pc L st sh me cs sl := by
  subst hn
  intro l p e R s m args below meth c D cA adr0 A Z C adr H locs ls he hP hD hS hL
  exact lv_iconst C.1.1 C.1.2.1 hd hv (k l p e R s m args below meth c D cA adr0 A Z C adr H locs ls he hP hD hS hL)
theorem wl_bipush {n : Int} {v : Int32} (hd : decode M.2.1 pc = .ok (.bipush n, 2)) (hn : pc + 2 = np) (hv : (Int8.ofInt n).toInt32 = v) (k : Wa M sx d mc ms n0 Q np L (.int v :: st) sh me cs sl) : Wa M sx d mc ms n0 Q pc L st sh me cs sl := by
  subst hn
  intro l p e R s m args below meth c D cA adr0 A Z C adr H locs ls he hP hD hS hL
  exact lv_bipush C.1.1 C.1.2.1 hd hv (k l p e R s m args below meth c D cA adr0 A Z C adr H locs ls he hP hD hS hL)
theorem wl_sipush {n : Int} {v : Int32} (hd : decode M.2.1 pc = .ok (.sipush n, 3)) (hn : pc + 3 = np) (hv : (Int16.ofInt n).toInt32 = v) (k : Wa M sx d mc ms n0 Q np L (.int v :: st) sh me cs sl) : Wa M sx d mc ms n0 Q pc L st sh me cs sl := by
  subst hn
  intro l p e R s m args below meth c D cA adr0 A Z C adr H locs ls he hP hD hS hL
  exact lv_sipush C.1.1 C.1.2.1 hd hv (k l p e R s m args below meth c D cA adr0 A Z C adr H locs ls he hP hD hS hL)
theorem wl_lconst {n : Fin 2} {v : Int64} (hd : decode M.2.1 pc = .ok (.lconst n, 1)) (hn : pc + 1 = np) (hv : Int64.ofNat (n : Nat) = v) (k : Wa M sx d mc ms n0 Q np L (.long v :: st) sh me cs sl) : Wa M sx d mc ms n0 Q pc L st sh me cs sl := by
  subst hn
  intro l p e R s m args below meth c D cA adr0 A Z C adr H locs ls he hP hD hS hL
  exact lv_lconst C.1.1 C.1.2.1 hd hv (k l p e R s m args below meth c D cA adr0 A Z C adr H locs ls he hP hD hS hL)
theorem wl_null  (hd : decode M.2.1 pc = .ok (.aconst_null, 1)) (hn : pc + 1 = np) (k : Wa M sx d mc ms n0 Q np L (.null :: st) sh me cs sl) : Wa M sx d mc ms n0 Q pc L st sh me cs sl := by
  subst hn
  intro l p e R s m args below meth c D cA adr0 A Z C adr H locs ls he hP hD hS hL
  exact lv_null C.1.1 C.1.2.1 hd  (k l p e R s m args below meth c D cA adr0 A Z C adr H locs ls he hP hD hS hL)
theorem wl_dup {va : Value} (hd : decode M.2.1 pc = .ok (.dup, 1)) (hn : pc + 1 = np) (hc : va.category = 1) (k : Wa M sx d mc ms n0 Q np L (va :: va :: st) sh me cs sl) : Wa M sx d mc ms n0 Q pc L (va :: st) sh me cs sl := by
  subst hn
  intro l p e R s m args below meth c D cA adr0 A Z C adr H locs ls he hP hD hS hL
  exact lv_dup C.1.1 C.1.2.1 hd ((cv_cat adr va).trans hc) (k l p e R s m args below meth c D cA adr0 A Z C adr H locs ls he hP hD hS hL)
theorem wl_pop {va : Value} (hd : decode M.2.1 pc = .ok (.pop, 1)) (hn : pc + 1 = np) (hc : va.category = 1) (k : Wa M sx d mc ms n0 Q np L st sh me cs sl) : Wa M sx d mc ms n0 Q pc L (va :: st) sh me cs sl := by
  subst hn
  intro l p e R s m args below meth c D cA adr0 A Z C adr H locs ls he hP hD hS hL
  exact lv_pop C.1.1 C.1.2.1 hd ((cv_cat adr va).trans hc) (k l p e R s m args below meth c D cA adr0 A Z C adr H locs ls he hP hD hS hL)
theorem wl_dup2 {va vb : Value} (hd : decode M.2.1 pc = .ok (.dup2, 1)) (hn : pc + 1 = np) (hc : va.category = 1) (hc2 : vb.category = 1) (k : Wa M sx d mc ms n0 Q np L (va :: vb :: va :: vb :: st) sh me cs sl) : Wa M sx d mc ms n0 Q pc L (va :: vb :: st) sh me cs sl := by
  subst hn
  intro l p e R s m args below meth c D cA adr0 A Z C adr H locs ls he hP hD hS hL
  exact lv_dup2_11 C.1.1 C.1.2.1 hd ((cv_cat adr va).trans hc) ((cv_cat adr vb).trans hc2) (k l p e R s m args below meth c D cA adr0 A Z C adr H locs ls he hP hD hS hL)
theorem wl_ldc {idx : Nat} {v : Int32} (hd : decode M.2.1 pc = .ok (.ldc idx, 2)) (hn : pc + 2 = np) (hw : Cond.constant M.1.cls idx v ∈ WS) (k : Wa M sx d mc ms n0 Q np L (.int v :: st) sh me cs sl) : Wa M sx d mc ms n0 Q pc L st sh me cs sl := by
  subst hn
  intro l p e R s m args below meth c D cA adr0 A Z C adr H locs ls he hP hD hS hL
  exact lv_ldc C.1.1 C.1.2.1 C.1.2.2.2.2 (C.2.1 _ hw) hd (k l p e R s m args below meth c D cA adr0 A Z C adr H locs ls he hP hD hS hL)
theorem wl_ldc2 {idx : Nat} {v : Int64} (hd : decode M.2.1 pc = .ok (.ldc2_w idx, 3)) (hn : pc + 3 = np) (hw : Cond.constantLong M.1.cls idx v ∈ WS) (k : Wa M sx d mc ms n0 Q np L (.long v :: st) sh me cs sl) : Wa M sx d mc ms n0 Q pc L st sh me cs sl := by
  subst hn
  intro l p e R s m args below meth c D cA adr0 A Z C adr H locs ls he hP hD hS hL
  exact lv_ldc2 C.1.1 C.1.2.1 C.1.2.2.2.2 (C.2.1 _ hw) hd (k l p e R s m args below meth c D cA adr0 A Z C adr H locs ls he hP hD hS hL)
theorem wl_iload_n {i : Nat} {j : Fin 4} {x : Int32} (hd : decode M.2.1 pc = .ok (.iload_n j, 1)) (hn : pc + 1 = np) (hj : (j : Nat) = i) (hv : L[i]? = some (.int x)) (k : Wa M sx d mc ms n0 Q np L (.int x :: st) sh me cs sl) : Wa M sx d mc ms n0 Q pc L st sh me cs sl := by
  subst hn
  intro l p e R s m args below meth c D cA adr0 A Z C adr H locs ls he hP hD hS hL
  exact lv_iload_n C.1.1 C.1.2.1 hd hj (hL.get hv (fun h => by cases h)) (k l p e R s m args below meth c D cA adr0 A Z C adr H locs ls he hP hD hS hL)
theorem wl_iload {i : Nat} {x : Int32} (hd : decode M.2.1 pc = .ok (.iload i, 2)) (hn : pc + 2 = np) (hv : L[i]? = some (.int x)) (k : Wa M sx d mc ms n0 Q np L (.int x :: st) sh me cs sl) : Wa M sx d mc ms n0 Q pc L st sh me cs sl := by
  subst hn
  intro l p e R s m args below meth c D cA adr0 A Z C adr H locs ls he hP hD hS hL
  exact lv_iload C.1.1 C.1.2.1 hd (hL.get hv (fun h => by cases h)) (k l p e R s m args below meth c D cA adr0 A Z C adr H locs ls he hP hD hS hL)
theorem wl_lload_n {i : Nat} {j : Fin 4} {x : Int64} (hd : decode M.2.1 pc = .ok (.lload_n j, 1)) (hn : pc + 1 = np) (hj : (j : Nat) = i) (hv : L[i]? = some (.long x)) (k : Wa M sx d mc ms n0 Q np L (.long x :: st) sh me cs sl) : Wa M sx d mc ms n0 Q pc L st sh me cs sl := by
  subst hn
  intro l p e R s m args below meth c D cA adr0 A Z C adr H locs ls he hP hD hS hL
  exact lv_lload_n C.1.1 C.1.2.1 hd hj (hL.get hv (fun h => by cases h)) (k l p e R s m args below meth c D cA adr0 A Z C adr H locs ls he hP hD hS hL)
theorem wl_lload {i : Nat} {x : Int64} (hd : decode M.2.1 pc = .ok (.lload i, 2)) (hn : pc + 2 = np) (hv : L[i]? = some (.long x)) (k : Wa M sx d mc ms n0 Q np L (.long x :: st) sh me cs sl) : Wa M sx d mc ms n0 Q pc L st sh me cs sl := by
  subst hn
  intro l p e R s m args below meth c D cA adr0 A Z C adr H locs ls he hP hD hS hL
  exact lv_lload C.1.1 C.1.2.1 hd (hL.get hv (fun h => by cases h)) (k l p e R s m args below meth c D cA adr0 A Z C adr H locs ls he hP hD hS hL)
theorem wl_aload_n {i : Nat} {j : Fin 4} {x : Nat} (hd : decode M.2.1 pc = .ok (.aload_n j, 1)) (hn : pc + 1 = np) (hj : (j : Nat) = i) (hv : L[i]? = some (.ref x)) (k : Wa M sx d mc ms n0 Q np L (.ref x :: st) sh me cs sl) : Wa M sx d mc ms n0 Q pc L st sh me cs sl := by
  subst hn
  intro l p e R s m args below meth c D cA adr0 A Z C adr H locs ls he hP hD hS hL
  exact lv_aload_n C.1.1 C.1.2.1 hd hj (hL.get hv (fun h => by cases h)) (k l p e R s m args below meth c D cA adr0 A Z C adr H locs ls he hP hD hS hL)
theorem wl_aload {i : Nat} {x : Nat} (hd : decode M.2.1 pc = .ok (.aload i, 2)) (hn : pc + 2 = np) (hv : L[i]? = some (.ref x)) (k : Wa M sx d mc ms n0 Q np L (.ref x :: st) sh me cs sl) : Wa M sx d mc ms n0 Q pc L st sh me cs sl := by
  subst hn
  intro l p e R s m args below meth c D cA adr0 A Z C adr H locs ls he hP hD hS hL
  exact lv_aload C.1.1 C.1.2.1 hd (hL.get hv (fun h => by cases h)) (k l p e R s m args below meth c D cA adr0 A Z C adr H locs ls he hP hD hS hL)
theorem wl_istore_n {i : Nat} {j : Fin 4} {x : Int32} (hd : decode M.2.1 pc = .ok (.istore_n j, 1)) (hn : pc + 1 = np) (hj : (j : Nat) = i) (hi : i < M.2.2.1) (hp : ∀ w, 0 < i → L[i - 1]? = some w → w.category = 1) (k : Wa M sx d mc ms n0 Q np (L.set i (.int x)) st sh me cs sl) : Wa M sx d mc ms n0 Q pc L (.int x :: st) sh me cs sl := by
  subst hn
  intro l p e R s m args below meth c D cA adr0 A Z C adr H locs ls he hP hD hS hL
  exact lv_istore_n C.1.1 C.1.2.1 hd hj hL.has hi rfl (fun ls' hl' => k l p e R s m args below meth c D cA adr0 A Z C adr H locs ls' he hP hD hS (Lr.set1 (v := .int x) hl' hp))
theorem wl_istore {i : Nat} {x : Int32} (hd : decode M.2.1 pc = .ok (.istore i, 2)) (hn : pc + 2 = np) (hi : i < M.2.2.1) (hp : ∀ w, 0 < i → L[i - 1]? = some w → w.category = 1) (k : Wa M sx d mc ms n0 Q np (L.set i (.int x)) st sh me cs sl) : Wa M sx d mc ms n0 Q pc L (.int x :: st) sh me cs sl := by
  subst hn
  intro l p e R s m args below meth c D cA adr0 A Z C adr H locs ls he hP hD hS hL
  exact lv_istore C.1.1 C.1.2.1 hd hL.has hi rfl (fun ls' hl' => k l p e R s m args below meth c D cA adr0 A Z C adr H locs ls' he hP hD hS (Lr.set1 (v := .int x) hl' hp))
theorem wl_astore_n {i : Nat} {j : Fin 4} {x : Nat} (hd : decode M.2.1 pc = .ok (.astore_n j, 1)) (hn : pc + 1 = np) (hj : (j : Nat) = i) (hi : i < M.2.2.1) (hp : ∀ w, 0 < i → L[i - 1]? = some w → w.category = 1) (k : Wa M sx d mc ms n0 Q np (L.set i (.ref x)) st sh me cs sl) : Wa M sx d mc ms n0 Q pc L (.ref x :: st) sh me cs sl := by
  subst hn
  intro l p e R s m args below meth c D cA adr0 A Z C adr H locs ls he hP hD hS hL
  exact lv_astore_n C.1.1 C.1.2.1 hd hj hL.has hi rfl (fun ls' hl' => k l p e R s m args below meth c D cA adr0 A Z C adr H locs ls' he hP hD hS (Lr.set1 (v := .ref x) hl' hp))
theorem wl_astore {i : Nat} {x : Nat} (hd : decode M.2.1 pc = .ok (.astore i, 2)) (hn : pc + 2 = np) (hi : i < M.2.2.1) (hp : ∀ w, 0 < i → L[i - 1]? = some w → w.category = 1) (k : Wa M sx d mc ms n0 Q np (L.set i (.ref x)) st sh me cs sl) : Wa M sx d mc ms n0 Q pc L (.ref x :: st) sh me cs sl := by
  subst hn
  intro l p e R s m args below meth c D cA adr0 A Z C adr H locs ls he hP hD hS hL
  exact lv_astore C.1.1 C.1.2.1 hd hL.has hi rfl (fun ls' hl' => k l p e R s m args below meth c D cA adr0 A Z C adr H locs ls' he hP hD hS (Lr.set1 (v := .ref x) hl' hp))
theorem wl_iinc {i : Nat} {n : Int} {x v : Int32} (hd : decode M.2.1 pc = .ok (.iinc i n, 3)) (hn : pc + 3 = np) (hv : L[i]? = some (.int x)) (hx : x + Int32.ofInt n = v) (hi : i < M.2.2.1) (hp : ∀ w, 0 < i → L[i - 1]? = some w → w.category = 1) (k : Wa M sx d mc ms n0 Q np (L.set i (.int v)) st sh me cs sl) : Wa M sx d mc ms n0 Q pc L st sh me cs sl := by
  subst hn
  intro l p e R s m args below meth c D cA adr0 A Z C adr H locs ls he hP hD hS hL
  have hne : Value.int x ≠ Value.float 0 := by intro h; cases h
  obtain ⟨j, hj⟩ := List.getElem?_of_mem (las_mem.mpr ⟨.int x, hv, hne, rfl⟩ : (i, Value.int x) ∈ las adr L)
  exact lv_iinc C.1.1 C.1.2.1 hd hL.has hj hx hi rfl (fun ls' hl' => k l p e R s m args below meth c D cA adr0 A Z C adr H locs ls' he hP hD hS (Lr.set1 (v := .int v) hl' hp))
theorem wl_if_eq {x : Int32} {off : Int} (hd : decode M.2.1 pc = .ok (.ifCond .eq off, 3)) (hn : pc + 3 = np) (ht : (pc : Int) + off = (tg : Int)) (kt : x = 0 → Wa M sx d mc ms n0 Q tg L st sh me cs sl) (kf : ¬ x = 0 → Wa M sx d mc ms n0 Q np L st sh me cs sl) : Wa M sx d mc ms n0 Q pc L (.int x :: st) sh me cs sl := by
  subst hn
  intro l p e R s m args below meth c D cA adr0 A Z C adr H locs ls he hP hD hS hL
  exact lv_if_eq C.1.1 C.1.2.1 hd ht (fun q => kt q l p e R s m args below meth c D cA adr0 A Z C adr H locs ls he hP hD hS hL) (fun q => kf q l p e R s m args below meth c D cA adr0 A Z C adr H locs ls he hP hD hS hL)
theorem wl_if_ne {x : Int32} {off : Int} (hd : decode M.2.1 pc = .ok (.ifCond .ne off, 3)) (hn : pc + 3 = np) (ht : (pc : Int) + off = (tg : Int)) (kt : ¬ x = 0 → Wa M sx d mc ms n0 Q tg L st sh me cs sl) (kf : x = 0 → Wa M sx d mc ms n0 Q np L st sh me cs sl) : Wa M sx d mc ms n0 Q pc L (.int x :: st) sh me cs sl := by
  subst hn
  intro l p e R s m args below meth c D cA adr0 A Z C adr H locs ls he hP hD hS hL
  exact lv_if_ne C.1.1 C.1.2.1 hd ht (fun q => kt q l p e R s m args below meth c D cA adr0 A Z C adr H locs ls he hP hD hS hL) (fun q => kf q l p e R s m args below meth c D cA adr0 A Z C adr H locs ls he hP hD hS hL)
theorem wl_if_lt {x : Int32} {off : Int} (hd : decode M.2.1 pc = .ok (.ifCond .lt off, 3)) (hn : pc + 3 = np) (ht : (pc : Int) + off = (tg : Int)) (kt : x < 0 → Wa M sx d mc ms n0 Q tg L st sh me cs sl) (kf : ¬ x < 0 → Wa M sx d mc ms n0 Q np L st sh me cs sl) : Wa M sx d mc ms n0 Q pc L (.int x :: st) sh me cs sl := by
  subst hn
  intro l p e R s m args below meth c D cA adr0 A Z C adr H locs ls he hP hD hS hL
  exact lv_if_lt C.1.1 C.1.2.1 hd ht (fun q => kt q l p e R s m args below meth c D cA adr0 A Z C adr H locs ls he hP hD hS hL) (fun q => kf q l p e R s m args below meth c D cA adr0 A Z C adr H locs ls he hP hD hS hL)
theorem wl_if_ge {x : Int32} {off : Int} (hd : decode M.2.1 pc = .ok (.ifCond .ge off, 3)) (hn : pc + 3 = np) (ht : (pc : Int) + off = (tg : Int)) (kt : 0 ≤ x → Wa M sx d mc ms n0 Q tg L st sh me cs sl) (kf : ¬ 0 ≤ x → Wa M sx d mc ms n0 Q np L st sh me cs sl) : Wa M sx d mc ms n0 Q pc L (.int x :: st) sh me cs sl := by
  subst hn
  intro l p e R s m args below meth c D cA adr0 A Z C adr H locs ls he hP hD hS hL
  exact lv_if_ge C.1.1 C.1.2.1 hd ht (fun q => kt q l p e R s m args below meth c D cA adr0 A Z C adr H locs ls he hP hD hS hL) (fun q => kf q l p e R s m args below meth c D cA adr0 A Z C adr H locs ls he hP hD hS hL)
theorem wl_if_gt {x : Int32} {off : Int} (hd : decode M.2.1 pc = .ok (.ifCond .gt off, 3)) (hn : pc + 3 = np) (ht : (pc : Int) + off = (tg : Int)) (kt : 0 < x → Wa M sx d mc ms n0 Q tg L st sh me cs sl) (kf : ¬ 0 < x → Wa M sx d mc ms n0 Q np L st sh me cs sl) : Wa M sx d mc ms n0 Q pc L (.int x :: st) sh me cs sl := by
  subst hn
  intro l p e R s m args below meth c D cA adr0 A Z C adr H locs ls he hP hD hS hL
  exact lv_if_gt C.1.1 C.1.2.1 hd ht (fun q => kt q l p e R s m args below meth c D cA adr0 A Z C adr H locs ls he hP hD hS hL) (fun q => kf q l p e R s m args below meth c D cA adr0 A Z C adr H locs ls he hP hD hS hL)
theorem wl_if_le {x : Int32} {off : Int} (hd : decode M.2.1 pc = .ok (.ifCond .le off, 3)) (hn : pc + 3 = np) (ht : (pc : Int) + off = (tg : Int)) (kt : x ≤ 0 → Wa M sx d mc ms n0 Q tg L st sh me cs sl) (kf : ¬ x ≤ 0 → Wa M sx d mc ms n0 Q np L st sh me cs sl) : Wa M sx d mc ms n0 Q pc L (.int x :: st) sh me cs sl := by
  subst hn
  intro l p e R s m args below meth c D cA adr0 A Z C adr H locs ls he hP hD hS hL
  exact lv_if_le C.1.1 C.1.2.1 hd ht (fun q => kt q l p e R s m args below meth c D cA adr0 A Z C adr H locs ls he hP hD hS hL) (fun q => kf q l p e R s m args below meth c D cA adr0 A Z C adr H locs ls he hP hD hS hL)
theorem wl_icmp_eq {x y : Int32} {off : Int} (hd : decode M.2.1 pc = .ok (.if_icmp .eq off, 3)) (hn : pc + 3 = np) (ht : (pc : Int) + off = (tg : Int)) (kt : x = y → Wa M sx d mc ms n0 Q tg L st sh me cs sl) (kf : ¬ x = y → Wa M sx d mc ms n0 Q np L st sh me cs sl) : Wa M sx d mc ms n0 Q pc L (.int y :: .int x :: st) sh me cs sl := by
  subst hn
  intro l p e R s m args below meth c D cA adr0 A Z C adr H locs ls he hP hD hS hL
  exact lv_icmp_eq C.1.1 C.1.2.1 hd ht (fun q => kt q l p e R s m args below meth c D cA adr0 A Z C adr H locs ls he hP hD hS hL) (fun q => kf q l p e R s m args below meth c D cA adr0 A Z C adr H locs ls he hP hD hS hL)
theorem wl_icmp_ne {x y : Int32} {off : Int} (hd : decode M.2.1 pc = .ok (.if_icmp .ne off, 3)) (hn : pc + 3 = np) (ht : (pc : Int) + off = (tg : Int)) (kt : ¬ x = y → Wa M sx d mc ms n0 Q tg L st sh me cs sl) (kf : x = y → Wa M sx d mc ms n0 Q np L st sh me cs sl) : Wa M sx d mc ms n0 Q pc L (.int y :: .int x :: st) sh me cs sl := by
  subst hn
  intro l p e R s m args below meth c D cA adr0 A Z C adr H locs ls he hP hD hS hL
  exact lv_icmp_ne C.1.1 C.1.2.1 hd ht (fun q => kt q l p e R s m args below meth c D cA adr0 A Z C adr H locs ls he hP hD hS hL) (fun q => kf q l p e R s m args below meth c D cA adr0 A Z C adr H locs ls he hP hD hS hL)
theorem wl_icmp_lt {x y : Int32} {off : Int} (hd : decode M.2.1 pc = .ok (.if_icmp .lt off, 3)) (hn : pc + 3 = np) (ht : (pc : Int) + off = (tg : Int)) (kt : x < y → Wa M sx d mc ms n0 Q tg L st sh me cs sl) (kf : ¬ x < y → Wa M sx d mc ms n0 Q np L st sh me cs sl) : Wa M sx d mc ms n0 Q pc L (.int y :: .int x :: st) sh me cs sl := by
  subst hn
  intro l p e R s m args below meth c D cA adr0 A Z C adr H locs ls he hP hD hS hL
  exact lv_icmp_lt C.1.1 C.1.2.1 hd ht (fun q => kt q l p e R s m args below meth c D cA adr0 A Z C adr H locs ls he hP hD hS hL) (fun q => kf q l p e R s m args below meth c D cA adr0 A Z C adr H locs ls he hP hD hS hL)
theorem wl_icmp_ge {x y : Int32} {off : Int} (hd : decode M.2.1 pc = .ok (.if_icmp .ge off, 3)) (hn : pc + 3 = np) (ht : (pc : Int) + off = (tg : Int)) (kt : y ≤ x → Wa M sx d mc ms n0 Q tg L st sh me cs sl) (kf : ¬ y ≤ x → Wa M sx d mc ms n0 Q np L st sh me cs sl) : Wa M sx d mc ms n0 Q pc L (.int y :: .int x :: st) sh me cs sl := by
  subst hn
  intro l p e R s m args below meth c D cA adr0 A Z C adr H locs ls he hP hD hS hL
  exact lv_icmp_ge C.1.1 C.1.2.1 hd ht (fun q => kt q l p e R s m args below meth c D cA adr0 A Z C adr H locs ls he hP hD hS hL) (fun q => kf q l p e R s m args below meth c D cA adr0 A Z C adr H locs ls he hP hD hS hL)
theorem wl_icmp_gt {x y : Int32} {off : Int} (hd : decode M.2.1 pc = .ok (.if_icmp .gt off, 3)) (hn : pc + 3 = np) (ht : (pc : Int) + off = (tg : Int)) (kt : y < x → Wa M sx d mc ms n0 Q tg L st sh me cs sl) (kf : ¬ y < x → Wa M sx d mc ms n0 Q np L st sh me cs sl) : Wa M sx d mc ms n0 Q pc L (.int y :: .int x :: st) sh me cs sl := by
  subst hn
  intro l p e R s m args below meth c D cA adr0 A Z C adr H locs ls he hP hD hS hL
  exact lv_icmp_gt C.1.1 C.1.2.1 hd ht (fun q => kt q l p e R s m args below meth c D cA adr0 A Z C adr H locs ls he hP hD hS hL) (fun q => kf q l p e R s m args below meth c D cA adr0 A Z C adr H locs ls he hP hD hS hL)
theorem wl_icmp_le {x y : Int32} {off : Int} (hd : decode M.2.1 pc = .ok (.if_icmp .le off, 3)) (hn : pc + 3 = np) (ht : (pc : Int) + off = (tg : Int)) (kt : x ≤ y → Wa M sx d mc ms n0 Q tg L st sh me cs sl) (kf : ¬ x ≤ y → Wa M sx d mc ms n0 Q np L st sh me cs sl) : Wa M sx d mc ms n0 Q pc L (.int y :: .int x :: st) sh me cs sl := by
  subst hn
  intro l p e R s m args below meth c D cA adr0 A Z C adr H locs ls he hP hD hS hL
  exact lv_icmp_le C.1.1 C.1.2.1 hd ht (fun q => kt q l p e R s m args below meth c D cA adr0 A Z C adr H locs ls he hP hD hS hL) (fun q => kf q l p e R s m args below meth c D cA adr0 A Z C adr H locs ls he hP hD hS hL)
theorem wl_goto {off : Int} (hd : decode M.2.1 pc = .ok (.goto off, 3)) (ht : (pc : Int) + off = (tg : Int)) (k : Wa M sx d mc ms n0 Q tg L st sh me cs sl) : Wa M sx d mc ms n0 Q pc L st sh me cs sl := by
  intro l p e R s m args below meth c D cA adr0 A Z C adr H locs ls he hP hD hS hL
  exact lv_goto C.1.1 C.1.2.1 hd ht (k l p e R s m args below meth c D cA adr0 A Z C adr H locs ls he hP hD hS hL)
theorem wl_ifnull {off : Int} {a : Nat} (hd : decode M.2.1 pc = .ok (.ifnull off, 3)) (hn : pc + 3 = np) (k : Wa M sx d mc ms n0 Q np L st sh me cs sl) : Wa M sx d mc ms n0 Q pc L (.ref a :: st) sh me cs sl := by
  subst hn
  intro l p e R s m args below meth c D cA adr0 A Z C adr H locs ls he hP hD hS hL
  exact lv_ifnull C.1.1 C.1.2.1 hd (k l p e R s m args below meth c D cA adr0 A Z C adr H locs ls he hP hD hS hL)
theorem wl_ifnullN {off : Int} (hd : decode M.2.1 pc = .ok (.ifnull off, 3)) (ht : (pc : Int) + off = (tg : Int)) (k : Wa M sx d mc ms n0 Q tg L st sh me cs sl) : Wa M sx d mc ms n0 Q pc L (.null :: st) sh me cs sl := by
  intro l p e R s m args below meth c D cA adr0 A Z C adr H locs ls he hP hD hS hL
  exact lv_ifnullN C.1.1 C.1.2.1 hd ht (k l p e R s m args below meth c D cA adr0 A Z C adr H locs ls he hP hD hS hL)
theorem wl_ifnonnull {off : Int} {a : Nat} (hd : decode M.2.1 pc = .ok (.ifnonnull off, 3)) (ht : (pc : Int) + off = (tg : Int)) (k : Wa M sx d mc ms n0 Q tg L st sh me cs sl) : Wa M sx d mc ms n0 Q pc L (.ref a :: st) sh me cs sl := by
  intro l p e R s m args below meth c D cA adr0 A Z C adr H locs ls he hP hD hS hL
  exact lv_ifnonnull C.1.1 C.1.2.1 hd ht (k l p e R s m args below meth c D cA adr0 A Z C adr H locs ls he hP hD hS hL)
theorem wl_ifnonnullN {off : Int} (hd : decode M.2.1 pc = .ok (.ifnonnull off, 3)) (hn : pc + 3 = np) (k : Wa M sx d mc ms n0 Q np L st sh me cs sl) : Wa M sx d mc ms n0 Q pc L (.null :: st) sh me cs sl := by
  subst hn
  intro l p e R s m args below meth c D cA adr0 A Z C adr H locs ls he hP hD hS hL
  exact lv_ifnonnullN C.1.1 C.1.2.1 hd (k l p e R s m args below meth c D cA adr0 A Z C adr H locs ls he hP hD hS hL)
theorem wl_tswI {dflt lo hi : Int} {offs : Array Int} {len : Nat} {x : Int32} {off : Int} (hd : decode M.2.1 pc = .ok (.tableswitch dflt lo hi offs, len)) (h1 : ¬ x.toInt < lo) (h2 : ¬ hi < x.toInt) (ho : offs[(x.toInt - lo).toNat]? = some off) (ht : (pc : Int) + off = (tg : Int)) (k : Wa M sx d mc ms n0 Q tg L st sh me cs sl) : Wa M sx d mc ms n0 Q pc L (.int x :: st) sh me cs sl := by
  intro l p e R s m args below meth c D cA adr0 A Z C adr H locs ls he hP hD hS hL
  exact lv_tableIn C.1.1 C.1.2.1 hd h1 h2 ho ht (k l p e R s m args below meth c D cA adr0 A Z C adr H locs ls he hP hD hS hL)
theorem wl_tswO {dflt lo hi : Int} {offs : Array Int} {len : Nat} {x : Int32} (hd : decode M.2.1 pc = .ok (.tableswitch dflt lo hi offs, len)) (h : x.toInt < lo ∨ hi < x.toInt) (ht : (pc : Int) + dflt = (tg : Int)) (k : Wa M sx d mc ms n0 Q tg L st sh me cs sl) : Wa M sx d mc ms n0 Q pc L (.int x :: st) sh me cs sl := by
  intro l p e R s m args below meth c D cA adr0 A Z C adr H locs ls he hP hD hS hL
  exact lv_tableOut C.1.1 C.1.2.1 hd h ht (k l p e R s m args below meth c D cA adr0 A Z C adr H locs ls he hP hD hS hL)
theorem wl_ret (hd : decode M.2.1 pc = .ok (.return_, 1)) (hr : M.2.2.2 = none) (hc : cs ≤ mc) (hs : sl ≤ ms) (hq : Q none sh me) : Wa M sx d mc ms n0 Q pc L [] sh me cs sl := by
  intro l p e R s m args below meth c D cA adr0 A Z C adr H locs ls he hP hD hS hL
  exact W.widen hc hs (C.2.2.2.2.2.2.2 none sh me adr H locs ls pc hq ⟨hd, hr⟩ he hP hD hS)
theorem wl_iret {x : Int32} {ty : FieldType} (hd : decode M.2.1 pc = .ok (.ireturn, 1)) (hr : M.2.2.2 = some ty) (hx : narrow ty (.int x) = .int x) (hc : cs ≤ mc) (hs : sl ≤ ms) (hq : Q (some (.int x)) sh me) : Wa M sx d mc ms n0 Q pc L [.int x] sh me cs sl := by
  intro l p e R s m args below meth c D cA adr0 A Z C adr H locs ls he hP hD hS hL
  exact W.widen hc hs (C.2.2.2.2.2.2.2 (some (.int x)) sh me adr H locs ls pc hq ⟨hd, ty, hr, hx⟩ he hP hD hS)
def inA (sh : List Shp) (k : Nat) (i : Int32) : Prop := ∃ n, sh[k]? = some (.inr (0, n)) ∧ vp_in i n
theorem wl_iaload {a : Nat} {i : Int32} (hd : decode M.2.1 pc = .ok (.iaload, 1)) (hn : pc + 1 = np) (hi : inA sh a i) (k : Wa M sx d mc ms n0 Q np L (.int (gI me a i.toNatClampNeg) :: st) sh me cs sl) : Wa M sx d mc ms n0 Q pc L (.int i :: .ref a :: st) sh me cs sl := by
  subst hn
  intro l p e R s m args below meth c D cA adr0 A Z C adr H locs ls he hP hD hS hL
  obtain ⟨n, h1, h2⟩ := hi
  exact va_iald C.1.1 C.1.2.1 C.2.2.2.1 hP a 0 (wl_get h1) rfl h2 hd (k l p e R s m args below meth c D cA adr0 A Z C adr H locs ls he hP hD hS hL)
theorem wl_sload {z : Nat} {i : Int32} (hd : decode M.2.1 pc = .ok (.iaload, 1)) (hn : pc + 1 = np) (hz : sx.1 ≠ 0) (hb0 : sh.length ≤ 999999) (hi : vp_in i (sx.1 - 1)) (k : Wa M sx d mc ms n0 Q np L (.int (sx.2 i.toNatClampNeg) :: st) sh me cs sl) : Wa M sx d mc ms n0 Q pc L (.int i :: .retAddr z :: st) sh me cs sl := by
  subst hn
  intro l p e R s m args below meth c D cA adr0 A Z C adr H locs ls he hP hD hS hL
  rcases C.2.2.2.2.2.2.1 with h0 | ⟨hX, hb, hA⟩
  · exact absurd h0 hz
  · have ee : adr 999999 = adr0 999999 := he _ (Or.inr hb0)
    rw [← ee] at hX hb hA
    exact va_sld C.1.1 C.1.2.1 hX hb hA hS hi hd (k l p e R s m args below meth c D cA adr0 A Z C adr H locs ls he hP hD hS hL)
theorem wl_slen {z : Nat} (hd : decode M.2.1 pc = .ok (.arraylength, 1)) (hn : pc + 1 = np) (hz : sx.1 ≠ 0) (hb0 : sh.length ≤ 999999) (k : Wa M sx d mc ms n0 Q np L (.int (Int32.ofNat (sx.1 - 1)) :: st) sh me cs sl) : Wa M sx d mc ms n0 Q pc L (.retAddr z :: st) sh me cs sl := by
  subst hn
  intro l p e R s m args below meth c D cA adr0 A Z C adr H locs ls he hP hD hS hL
  rcases C.2.2.2.2.2.2.1 with h0 | ⟨hX, hb, hA⟩
  · exact absurd h0 hz
  · have ee : adr 999999 = adr0 999999 := he _ (Or.inr hb0)
    rw [← ee] at hX hb hA
    exact va_slen C.1.1 C.1.2.1 hX hb hA hS hd (k l p e R s m args below meth c D cA adr0 A Z C adr H locs ls he hP hD hS hL)
theorem wl_iastore {a : Nat} {i x : Int32} (hd : decode M.2.1 pc = .ok (.iastore, 1)) (hn : pc + 1 = np) (hi : inA sh a i) (k : Wa M sx d mc ms n0 Q np L st sh (uI me a i.toNatClampNeg x) cs sl) : Wa M sx d mc ms n0 Q pc L (.int x :: .int i :: .ref a :: st) sh me cs sl := by
  subst hn
  intro l p e R s m args below meth c D cA adr0 A Z C adr H locs ls he hP hD hS hL
  obtain ⟨n, h1, h2⟩ := hi
  refine va_iast C.1.1 C.1.2.1 C.2.2.2.1 hP hD hS a 0 (wl_get h1) rfl h2 hd (fun H1 locs1 hP1 hD1 hS1 => ?_)
  have ew := wl_setA (cA := cA) (adr := adr) (me := me) (f := upd (gI me a) i.toNatClampNeg x) h1
  rw [ew] at hP1 hD1
  exact k l p e R s m args below meth c D cA adr0 A Z C adr H1 locs1 ls he hP1 hD1 hS1 hL
theorem wl_alen {a n t : Nat} {v : Int32} (hd : decode M.2.1 pc = .ok (.arraylength, 1)) (hn : pc + 1 = np) (hs : sh[a]? = some (.inr (t, n))) (ht : t < 4) (hv : Int32.ofNat n = v) (k : Wa M sx d mc ms n0 Q np L (.int v :: st) sh me cs sl) : Wa M sx d mc ms n0 Q pc L (.ref a :: st) sh me cs sl := by
  subst hn
  intro l p e R s m args below meth c D cA adr0 A Z C adr H locs ls he hP hD hS hL
  have hg := wl_get (cA := cA) (adr := adr) (me := me) hs
  match t, ht, hs, hg with
  | 0, _, hs, hg => exact va_alen C.1.1 C.1.2.1 C.2.2.2.1 hP a 0 hg rfl hv hd (k l p e R s m args below meth c D cA adr0 A Z C adr H locs ls he hP hD hS hL)
  | 1, _, hs, hg => exact va_alen C.1.1 C.1.2.1 C.2.2.2.1 hP a 1 hg rfl hv hd (k l p e R s m args below meth c D cA adr0 A Z C adr H locs ls he hP hD hS hL)
  | 2, _, hs, hg => exact va_alen C.1.1 C.1.2.1 C.2.2.2.1 hP a 2 hg rfl hv hd (k l p e R s m args below meth c D cA adr0 A Z C adr H locs ls he hP hD hS hL)
  | 3, _, hs, hg => exact va_alen C.1.1 C.1.2.1 C.2.2.2.1 hP a 3 hg rfl hv hd (k l p e R s m args below meth c D cA adr0 A Z C adr H locs ls he hP hD hS hL)
theorem wl_aaload {a b n t : Nat} {i : Int32} (hd : decode M.2.1 pc = .ok (.aaload, 1)) (hn : pc + 1 = np) (hs : sh[a]? = some (.inr (t + 1, n))) (ht : t < 3) (hi : vp_in i n) (hr : gR me a i.toNatClampNeg = some b) (k : Wa M sx d mc ms n0 Q np L (.ref b :: st) sh me cs sl) : Wa M sx d mc ms n0 Q pc L (.int i :: .ref a :: st) sh me cs sl := by
  subst hn
  intro l p e R s m args below meth c D cA adr0 A Z C adr H locs ls he hP hD hS hL
  have hg := wl_get (cA := cA) (adr := adr) (me := me) hs
  have hlt : i.toNatClampNeg < n := Nat.not_le.mp fun q => hi (Or.inr q)
  have hk := k l p e R s m args below meth c D cA adr0 A Z C adr H locs ls he hP hD hS hL
  match t, ht, hs, hg with
  | 0, _, hs, hg =>
    refine W.aald (v := va_rf ((gR me a i.toNatClampNeg).map adr)) (ty := .object "DebtCoats$Person") C.1.1 C.1.2.1 (hP a _ hg) ((C.2.2.2.1.2 1 _ rfl).1 n (fun j => va_rf ((gR me a j).map adr))) rfl (fun q => by cases q) (by show ¬ (i < 0 ∨ (arrV _ _ _).slots.size ≤ _); rw [arrV_size]; exact hi) (by show (arrV _ _ _).slots[_]? = _; rw [arrV_read _ _ hlt]) rfl rfl hd ?_
    rw [hr]; exact hk
  | 1, _, hs, hg =>
    refine W.aald (v := va_rf ((gR me a i.toNatClampNeg).map adr)) (ty := .object "DebtCoats$Sheet") C.1.1 C.1.2.1 (hP a _ hg) ((C.2.2.2.1.2 2 _ rfl).1 n (fun j => va_rf ((gR me a j).map adr))) rfl (fun q => by cases q) (by show ¬ (i < 0 ∨ (arrV _ _ _).slots.size ≤ _); rw [arrV_size]; exact hi) (by show (arrV _ _ _).slots[_]? = _; rw [arrV_read _ _ hlt]) rfl rfl hd ?_
    rw [hr]; exact hk
  | 2, _, hs, hg =>
    refine W.aald (v := va_rf ((gR me a i.toNatClampNeg).map adr)) (ty := .array .int) C.1.1 C.1.2.1 (hP a _ hg) ((C.2.2.2.1.2 3 _ rfl).1 n (fun j => va_rf ((gR me a j).map adr))) rfl (fun q => by cases q) (by show ¬ (i < 0 ∨ (arrV _ _ _).slots.size ≤ _); rw [arrV_size]; exact hi) (by show (arrV _ _ _).slots[_]? = _; rw [arrV_read _ _ hlt]) rfl rfl hd ?_
    rw [hr]; exact hk
/-- what an instruction's link to field j of kind ci needs: the words -/
def FLk (own : String) (idx ci j : Nat) : Prop := ∃ (C : String) (T : u_T) (N : Nat) (ty : Nat → FieldType), vwCl[ci]? = some (C, T, N) ∧ N = fn ci ∧ j < N ∧ Cond.fieldLink own idx C (T j).2.1 (T j).2.2.1 ∈ WS ∧ (T j).1 = C ∧ (∀ w ∈ u_ws C T N, w ∈ WS) ∧ (∀ k, k < N → parseFieldDescriptor (T k).2.2.1 = some (ty k)) ∧ (∀ a, a < N → ∀ b, b < N → a ≠ b → (T a).2.1 ≠ (T b).2.1) ∧ ((fk ci j = 0 ∧ ty j = .int) ∨ (fk ci j = 2 ∧ ty j = .boolean) ∨ (fk ci j = 1 ∧ refKind (ty j) = true))
theorem fval_at {adr : Nat → Nat} {me : Mem} {k ci j : Nat} (h : j < fn ci) : ((List.range (fn ci)).map (fval adr me k ci))[j]? = some (fval adr me k ci j) := by
  simp [h]
theorem wl_geti {idx ci j a : Nat} (hd : decode M.2.1 pc = .ok (.getfield idx, 3)) (hn : pc + 3 = np) (hf : FLk M.1.cls idx ci j) (h0 : fk ci j ≠ 1) (hs : sh[a]? = some (.inl ci)) (k : Wa M sx d mc ms n0 Q np L (.int (gI me a j) :: st) sh me cs sl) : Wa M sx d mc ms n0 Q pc L (.ref a :: st) sh me cs sl := by
  subst hn
  intro l p e R s m args below meth c D cA adr0 A Z C adr H locs ls he hP hD hS hL
  obtain ⟨C0, T, N, ty, h1, h2, h3, h4, h5, h6, h7, h8, h9⟩ := hf
  refine va_get (C := C0) (T := T) (N := N) (ref := C0) C.1.1 C.1.2.1 C.2.1 h6 C.1.2.2.2.2 C.2.2.2.1 hP a (wl_get hs) h1 j h3 (C.2.1 _ h4) (fun x hx => by rw [h5] at hx; exact hx) (fval_at (h2 ▸ h3)) hd ?_
  have ee : fval adr me a ci j = .int (gI me a j) := by simp [fval, h0]
  rw [ee]
  exact k l p e R s m args below meth c D cA adr0 A Z C adr H locs ls he hP hD hS hL
theorem wl_getr {idx ci j a b : Nat} (hd : decode M.2.1 pc = .ok (.getfield idx, 3)) (hn : pc + 3 = np) (hf : FLk M.1.cls idx ci j) (h0 : fk ci j = 1) (hs : sh[a]? = some (.inl ci)) (hr : gR me a j = some b) (k : Wa M sx d mc ms n0 Q np L (.ref b :: st) sh me cs sl) : Wa M sx d mc ms n0 Q pc L (.ref a :: st) sh me cs sl := by
  subst hn
  intro l p e R s m args below meth c D cA adr0 A Z C adr H locs ls he hP hD hS hL
  obtain ⟨C0, T, N, ty, h1, h2, h3, h4, h5, h6, h7, h8, h9⟩ := hf
  refine va_get (C := C0) (T := T) (N := N) (ref := C0) C.1.1 C.1.2.1 C.2.1 h6 C.1.2.2.2.2 C.2.2.2.1 hP a (wl_get hs) h1 j h3 (C.2.1 _ h4) (fun x hx => by rw [h5] at hx; exact hx) (fval_at (h2 ▸ h3)) hd ?_
  have ee : fval adr me a ci j = .ref (adr b) := by simp [fval, h0, hr, va_rf]
  rw [ee]
  exact k l p e R s m args below meth c D cA adr0 A Z C adr H locs ls he hP hD hS hL
theorem wl_getrN {idx ci j a : Nat} (hd : decode M.2.1 pc = .ok (.getfield idx, 3)) (hn : pc + 3 = np) (hf : FLk M.1.cls idx ci j) (h0 : fk ci j = 1) (hs : sh[a]? = some (.inl ci)) (hr : gR me a j = none) (k : Wa M sx d mc ms n0 Q np L (.null :: st) sh me cs sl) : Wa M sx d mc ms n0 Q pc L (.ref a :: st) sh me cs sl := by
  subst hn
  intro l p e R s m args below meth c D cA adr0 A Z C adr H locs ls he hP hD hS hL
  obtain ⟨C0, T, N, ty, h1, h2, h3, h4, h5, h6, h7, h8, h9⟩ := hf
  refine va_get (C := C0) (T := T) (N := N) (ref := C0) C.1.1 C.1.2.1 C.2.1 h6 C.1.2.2.2.2 C.2.2.2.1 hP a (wl_get hs) h1 j h3 (C.2.1 _ h4) (fun x hx => by rw [h5] at hx; exact hx) (fval_at (h2 ▸ h3)) hd ?_
  have ee : fval adr me a ci j = .null := by simp [fval, h0, hr, va_rf]
  rw [ee]
  exact k l p e R s m args below meth c D cA adr0 A Z C adr H locs ls he hP hD hS hL
/-- a field that isn't final -/
def FNf (ci j : Nat) : Prop := ∀ (C : String) (T : u_T) (N : Nat), vwCl[ci]? = some (C, T, N) → (T j).2.2.2 = false
theorem wl_puti {idx ci j a : Nat} {x : Int32} (hd : decode M.2.1 pc = .ok (.putfield idx, 3)) (hn : pc + 3 = np) (hf : FLk M.1.cls idx ci j) (hnf : FNf ci j) (h0 : fk ci j = 0) (hs : sh[a]? = some (.inl ci)) (k : Wa M sx d mc ms n0 Q np L st sh (uI me a j x) cs sl) : Wa M sx d mc ms n0 Q pc L (.int x :: .ref a :: st) sh me cs sl := by
  subst hn
  intro l p e R s m args below meth c D cA adr0 A Z C adr H locs ls he hP hD hS hL
  obtain ⟨C0, T, N, ty, h1, h2, h3, h4, h5, h6, h7, h8, h9⟩ := hf
  have hty : ty j = .int := by
    rcases h9 with h | h | h
    · exact h.2
    · rw [h0] at h; cases h.1
    · rw [h0] at h; cases h.1
  refine va_put (C := C0) (T := T) (N := N) (ref := C0) (ty := .int) C.1.1 C.1.2.1 C.2.1 h6 ty h7 h8 C.1.2.2.2.2 C.2.2.2.1 hP hD hS a (wl_get hs) h1 j h3 (C.2.1 _ h4) (fun x hx => by rw [h5] at hx; exact hx) (v := .int x) (hnf _ _ _ h1) (by rw [h7 j h3, hty]) rfl rfl (by simpa using (h2 ▸ h3)) hd (fun H1 locs1 hP1 hD1 hS1 => ?_)
  have ew := wl_setI (cA := cA) (adr := adr) (me := me) (x := x) (j := j) hs (by rw [h0]; decide)
  rw [ew] at hP1 hD1
  exact k l p e R s m args below meth c D cA adr0 A Z C adr H1 locs1 ls he hP1 hD1 hS1 hL
theorem wl_putz {idx ci j a : Nat} {x : Int32} (hd : decode M.2.1 pc = .ok (.putfield idx, 3)) (hn : pc + 3 = np) (hf : FLk M.1.cls idx ci j) (hnf : FNf ci j) (h0 : fk ci j = 2) (hz : narrow .boolean (.int x) = .int x ∧ fits .boolean (.int x) = true) (hs : sh[a]? = some (.inl ci)) (k : Wa M sx d mc ms n0 Q np L st sh (uI me a j x) cs sl) : Wa M sx d mc ms n0 Q pc L (.int x :: .ref a :: st) sh me cs sl := by
  subst hn
  intro l p e R s m args below meth c D cA adr0 A Z C adr H locs ls he hP hD hS hL
  obtain ⟨C0, T, N, ty, h1, h2, h3, h4, h5, h6, h7, h8, h9⟩ := hf
  have hty : ty j = .boolean := by
    rcases h9 with h | h | h
    · rw [h0] at h; cases h.1
    · exact h.2
    · rw [h0] at h; cases h.1
  refine va_put (C := C0) (T := T) (N := N) (ref := C0) (ty := .boolean) C.1.1 C.1.2.1 C.2.1 h6 ty h7 h8 C.1.2.2.2.2 C.2.2.2.1 hP hD hS a (wl_get hs) h1 j h3 (C.2.1 _ h4) (fun x hx => by rw [h5] at hx; exact hx) (v := .int x) (hnf _ _ _ h1) (by rw [h7 j h3, hty]) hz.1 hz.2 (by simpa using (h2 ▸ h3)) hd (fun H1 locs1 hP1 hD1 hS1 => ?_)
  have ew := wl_setI (cA := cA) (adr := adr) (me := me) (x := x) (j := j) hs (by rw [h0]; decide)
  rw [ew] at hP1 hD1
  exact k l p e R s m args below meth c D cA adr0 A Z C adr H1 locs1 ls he hP1 hD1 hS1 hL
theorem wl_putr {idx ci j a b : Nat} (hd : decode M.2.1 pc = .ok (.putfield idx, 3)) (hn : pc + 3 = np) (hf : FLk M.1.cls idx ci j) (hnf : FNf ci j) (h0 : fk ci j = 1) (hs : sh[a]? = some (.inl ci)) (k : Wa M sx d mc ms n0 Q np L st sh (uR me a j (some b)) cs sl) : Wa M sx d mc ms n0 Q pc L (.ref b :: .ref a :: st) sh me cs sl := by
  subst hn
  intro l p e R s m args below meth c D cA adr0 A Z C adr H locs ls he hP hD hS hL
  obtain ⟨C0, T, N, ty, h1, h2, h3, h4, h5, h6, h7, h8, h9⟩ := hf
  have hty : refKind (ty j) = true := by
    rcases h9 with h | h | h
    · rw [h0] at h; cases h.1
    · rw [h0] at h; cases h.1
    · exact h.2
  refine va_put (C := C0) (T := T) (N := N) (ref := C0) (ty := ty j) (v := .ref (adr b)) C.1.1 C.1.2.1 C.2.1 h6 ty h7 h8 C.1.2.2.2.2 C.2.2.2.1 hP hD hS a (wl_get hs) h1 j h3 (C.2.1 _ h4) (fun x hx => by rw [h5] at hx; exact hx) (hnf _ _ _ h1) (h7 j h3) (by cases hq : ty j <;> rw [hq] at hty <;> first | rfl | cases hty) (by cases hq : ty j <;> rw [hq] at hty <;> first | rfl | cases hty) (by simpa using (h2 ▸ h3)) hd (fun H1 locs1 hP1 hD1 hS1 => ?_)
  have ew := wl_setR (cA := cA) (adr := adr) (me := me) (r := some b) (j := j) hs h0
  rw [show va_rf ((some b).map adr) = Value.ref (adr b) from rfl] at ew
  rw [ew] at hP1 hD1
  exact k l p e R s m args below meth c D cA adr0 A Z C adr H1 locs1 ls he hP1 hD1 hS1 hL
end RULES
