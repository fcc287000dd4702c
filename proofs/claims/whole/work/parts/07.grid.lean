/-! ===== an array of arrays, made at once: from the model's own text of the instruction (Jvm.Op.multianewarray) =====
    The making is told in closed form: behind j rounds the heap is the old one, the leading array with its first j places filled, and j rows of noughts. -/
/-- what the leading array at b holds when j rows are made -/
def gd_lead (b j : Nat) : Nat → Value := fun i => if i < j then .ref (b + 1 + i) else .null
def gd_row (cI : ClassId) (K : Nat) : Cell := arrV cI K (fun _ => .int 0)
def gd_heap (H : Heap) (cA cI : ClassId) (N K j : Nat) : Heap := H.push (arrV cA N (gd_lead H.size j)) ++ Array.replicate j (gd_row cI K)
def gd_st (T : State) (cA cI : ClassId) (N K j : Nat) : State := { T with heap := gd_heap T.heap cA cI N K j, slotsUsed := T.slotsUsed + N + j * K }
section GRID
variable {H : Heap} {cA cI : ClassId} {N K j : Nat}
theorem gd_size : (gd_heap H cA cI N K j).size = H.size + 1 + j := by
  unfold gd_heap
  rw [Array.size_append, Array.size_push, Array.size_replicate]
theorem gd_old {q : Nat} (hq : q < H.size) : (gd_heap H cA cI N K j)[q]? = H[q]? := by
  unfold gd_heap
  rw [Array.getElem?_append_left (by rw [Array.size_push]; omega), Array.getElem?_push, if_neg (by omega)]
theorem gd_top : (gd_heap H cA cI N K j)[H.size]? = some (arrV cA N (gd_lead H.size j)) := by
  unfold gd_heap
  rw [Array.getElem?_append_left (by rw [Array.size_push]; omega), Array.getElem?_push_size]
theorem gd_in {i : Nat} (hi : i < j) : (gd_heap H cA cI N K j)[H.size + 1 + i]? = some (gd_row cI K) := by
  unfold gd_heap
  rw [Array.getElem?_append_right (by rw [Array.size_push]; omega), Array.size_push, Array.getElem?_replicate, if_pos (by omega)]
theorem gd_out {q : Nat} (hq : H.size + 1 + j ≤ q) : (gd_heap H cA cI N K j)[q]? = none := Array.getElem?_eq_none (by rw [gd_size]; exact hq)
/-- one round more: a row at the end, a place filled -/
theorem gd_next : ((gd_heap H cA cI N K j).push (gd_row cI K)).setIfInBounds H.size (arrV cA N (gd_lead H.size (j + 1))) = gd_heap H cA cI N K (j + 1) := by
  apply Array.ext_getElem?
  intro q
  rw [Array.getElem?_setIfInBounds]
  by_cases h0 : H.size = q
  · subst h0
    rw [if_pos rfl, if_pos (by rw [Array.size_push, gd_size]; omega), gd_top]
  · rw [if_neg h0, Array.getElem?_push, gd_size]
    by_cases h1 : q < H.size
    · rw [if_neg (by omega), gd_old h1, gd_old h1]
    · obtain ⟨i, rfl⟩ : ∃ i, q = H.size + 1 + i := ⟨q - H.size - 1, by omega⟩
      by_cases h2 : i = j
      · subst h2
        rw [if_pos rfl, gd_in (Nat.lt_succ_self _)]
      · rw [if_neg (by omega)]
        by_cases h3 : i < j
        · rw [gd_in h3, gd_in (by omega)]
        · rw [gd_out (by omega), gd_out (by omega)]
theorem gd_fill (b : Nat) : (arrV cA N (gd_lead b j)).setSlot j (.ref (b + 1 + j)) = arrV cA N (gd_lead b (j + 1)) := by
  rw [arrV_store]
  congr 1
  funext i
  unfold updV gd_lead
  by_cases h : i = j
  · subst h
    rw [if_pos rfl, if_pos (Nat.lt_succ_self _)]
  · rw [if_neg h]
    by_cases h2 : i < j
    · rw [if_pos h2, if_pos (by omega)]
    · rw [if_neg h2, if_neg (by omega)]
theorem gd_rowsz : (gd_row cI K).slots.size = K := arrV_size _ _ _
theorem gd_st0 {T : State} : T.pushCell (arrV cA N (fun _ => .null)) = gd_st T cA cI N K 0 := by
  have h1 : gd_heap T.heap cA cI N K 0 = T.heap.push (arrV cA N (fun _ => .null)) := by
    unfold gd_heap
    rw [Array.replicate_zero, Array.append_empty]
    rfl
  unfold gd_st State.pushCell
  rw [h1, arrV_size, Nat.zero_mul, Nat.add_zero]
theorem gd_st1 {T : State} : ((gd_st T cA cI N K j).pushCell (gd_row cI K)).setCell T.heap.size (arrV cA N (gd_lead T.heap.size (j + 1))) = gd_st T cA cI N K (j + 1) := by
  have h1 : T.slotsUsed + N + j * K + (gd_row cI K).slots.size = T.slotsUsed + N + (j + 1) * K := by
    rw [gd_rowsz, Nat.succ_mul]
    omega
  unfold gd_st State.setCell State.pushCell
  dsimp only
  rw [gd_next, h1]
end GRID
section GRIDS
variable {p : Program} {l : Launch} {e : Env} {R : Room} {s : State} {m : MethodId} {args : Array Value} {below : List Frame} {meth : Method} {c : Code} {T : State} {locs : List Loc} {cells slots : Nat} {cA cI : ClassId} {N K : Nat}
def gd_locs (b j : Nat) : List Loc := (List.range j).map (fun i => ⟨b, i⟩)
theorem gd_locs1 (b j : Nat) : gd_locs b (j + 1) = gd_locs b j ++ [⟨b, j⟩] := by
  unfold gd_locs
  rw [List.range_succ, List.map_append]
  rfl
theorem gd_stand (X : Stand p l e R s m args below meth c T locs cells slots) (cA cI : ClassId) (N K : Nat) : ∀ j : Nat, Stand p l e R s m args below meth c (gd_st T cA cI N K j) (locs ++ gd_locs T.heap.size j) (cells + 1 + j) (slots + N + j * K)
  | 0 => by
    have h := X.pushed (arrV cA N (fun _ => .null))
    rw [gd_st0 (cI := cI) (K := K), arrV_size] at h
    rw [Nat.zero_mul]
    exact (List.append_nil locs).symm ▸ h
  | j + 1 => by
    have h1 := (gd_stand X cA cI N K j).pushed (gd_row cI K)
    have hc : ((gd_st T cA cI N K j).pushCell (gd_row cI K)).heap[T.heap.size]? = some (arrV cA N (gd_lead T.heap.size j)) := by
      show ((gd_heap T.heap cA cI N K j).push (gd_row cI K))[T.heap.size]? = _
      rw [Array.getElem?_push, gd_size, if_neg (by omega), gd_top]
    have h2 := h1.stored hc j (.ref (T.heap.size + 1 + j))
    rw [gd_fill, gd_st1, gd_rowsz, List.append_assoc, ← gd_locs1] at h2
    rw [show cells + 1 + (j + 1) = cells + 1 + j + 1 from rfl, show slots + N + (j + 1) * K = slots + N + j * K + K by rw [Nat.succ_mul]; omega]
    exact h2
end GRIDS
section GRIDW
variable {E : CtlPost} {e : Env} {d : Bool} {acts : List Action}
/-- a new array, wherever the step stands: the class is an array's, the room is there -/
theorem gd_new {S : State} {c0 comp : ClassId} {k : Class} {ty : FieldType} {n : Nat} {v : Value} {Q : Addr → Pre} (hk : S.vm.classes[c0]? = some k) (hkind : k.kind = .array comp ty) (hfit : fits ty v = true) (h1 : n ≤ e.platform.arrayLengthLimit) (h2 : n * componentBytes ty ≤ e.platform.maxHeapBytes) (h3 : S.heap.size + 1 ≤ e.platform.maxCells) (h4 : S.slotsUsed + n ≤ e.platform.maxSlots)
    (hq : ∀ a, Q S.heap.size d a (S.pushCell (arrV c0 n (fun _ => v)))) : wp (Jvm.newArray c0 n v) Q E e d acts S := by
  have g1 : ¬ n > e.platform.arrayLengthLimit := by omega
  have g2 : ¬ n * componentBytes ty > e.platform.maxHeapBytes := by omega
  have g3 : ¬ n > e.platform.maxSlots := by omega
  have hall : ∀ i x, (Array.replicate n v)[i]? = some x → S.fitsSlot c0 .none i x = true := fun i x hx => by
    rw [Array.getElem?_replicate] at hx
    split at hx
    · cases hx
      simp only [State.fitsSlot, State.slotType?, hk, hkind, Option.bind_eq_bind, Option.bind_some, hfit]
    · cases hx
  simp only [Jvm.newArray, Jvm.arrayFits, wp_bind', Jvm.W.ask, Jvm.W.ite, Jvm.W.theClass, g1, g2, g3, if_false, wp_pure', hk, Option.some.injEq, exists_eq_left', hkind, Jvm.W.alloc]
  refine ⟨by omega, by rw [Array.size_replicate]; exact h4, hall, ?_⟩
  rw [arrV_new]
  exact hq _
end GRIDW
section GRIDL
variable {E : CtlPost} {e : Env} {d : Bool} {acts : List Action} {T : State} {g : JFrame} {cA cI : ClassId} {N K : Nat}
/-- rounds j .. N - 1, each from one closed form to the next -/
theorem gd_loop {f : Nat → PUnit → Sem (ForInStep PUnit)} {Q : PUnit → Pre}
    (hf : ∀ j, j < N → ∀ (Q' : ForInStep PUnit → Pre) (d : Bool) (acts : List Action), (∀ d a, Q' (.yield PUnit.unit) d a ((gd_st T cA cI N K (j + 1)).setTop g)) → wp (f j PUnit.unit) Q' E e d acts ((gd_st T cA cI N K j).setTop g))
    (hq : ∀ d a, Q PUnit.unit d a ((gd_st T cA cI N K N).setTop g)) : ∀ (r j : Nat), j + r = N → ∀ (d : Bool) (acts : List Action), wp (forIn (List.range' j r) PUnit.unit f) Q E e d acts ((gd_st T cA cI N K j).setTop g)
  | 0, j, h, d, acts => by
    have h' : j = N := h
    subst h'
    rw [List.range'_zero, List.forIn_nil, wp_pure']
    exact hq _ _
  | r + 1, j, h, d, acts => by
    rw [List.range'_succ, List.forIn_cons, wp_bind']
    exact hf j (by omega) _ _ _ (fun d a => gd_loop hf hq r (j + 1) (by omega) d a)
/-- a row of noughts -/
theorem gd_mrow {S : State} {comp : ClassId} {k : Class} {v : Int32} {Q : Addr → Pre} (hv : ¬ v < 0) (hK : v.toNatClampNeg = K) (hI : S.vm.classes[cI]? = some k) (hIk : k.kind = .array comp .int) (h1 : K ≤ e.platform.arrayLengthLimit) (h2 : K * 4 ≤ e.platform.maxHeapBytes) (h3 : S.heap.size + 1 ≤ e.platform.maxCells) (h4 : S.slotsUsed + K ≤ e.platform.maxSlots)
    (hq : ∀ a, Q S.heap.size d a (S.pushCell (gd_row cI K))) : wp (Jvm.Op.multianewarray.make cI [v]) Q E e d acts S := by
  rw [Jvm.Op.multianewarray.make]
  simp only [wp_bind', Jvm.W.ite, hv, if_false, wp_pure', Jvm.W.theClass, hI, Option.some.injEq, exists_eq_left', hIk, hK]
  exact gd_new hI hIk rfl h1 h2 h3 h4 hq
theorem gd_make {comp : ClassId} {kA kI : Class} {n1 n2 : Int32} {Q : Addr → Pre} (hn1 : ¬ n1 < 0) (hN : n1.toNatClampNeg = N) (hn2 : ¬ n2 < 0) (hK : n2.toNatClampNeg = K) (hA : T.vm.classes[cA]? = some kA) (hAk : kA.kind = .array cI (.array .int)) (hI : T.vm.classes[cI]? = some kI) (hIk : kI.kind = .array comp .int)
    (h1 : N ≤ e.platform.arrayLengthLimit) (h2 : N * 4 ≤ e.platform.maxHeapBytes) (g1 : K ≤ e.platform.arrayLengthLimit) (g2 : K * 4 ≤ e.platform.maxHeapBytes) (h3 : T.heap.size + (1 + N) ≤ e.platform.maxCells) (h4 : T.slotsUsed + (N + N * K) ≤ e.platform.maxSlots)
    (hq : ∀ d a, Q T.heap.size d a ((gd_st T cA cI N K N).setTop g)) : wp (Jvm.Op.multianewarray.make cA [n1, n2]) Q E e d acts (T.setTop g) := by
  have hfind : [n2].find? (fun x => decide (x < 0)) = none := by simp [List.find?, hn2]
  rw [Jvm.Op.multianewarray.make]
  simp only [wp_bind', Jvm.W.ite, hn1, if_false, wp_pure', Jvm.W.theClass, State.vm_setTop, hA, Option.some.injEq, exists_eq_left', hAk, hN, hfind, ite_self]
  refine gd_new (k := kA) (comp := cI) (ty := .array .int) hA hAk rfl h1 h2 (by show T.heap.size + 1 ≤ _; omega) (by show T.slotsUsed + N ≤ _; omega) (fun a => ?_)
  rw [State.pushCell_setTop, gd_st0 (cI := cI) (K := K), Std.Legacy.Range.forIn_eq_forIn_range']
  have hsz : (⟨0, N, 1, Nat.one_pos⟩ : Std.Legacy.Range).size = N := by
    simp [Std.Legacy.Range.size]
  rw [hsz, wp_bind']
  refine gd_loop (T := T) (g := g) (cA := cA) (cI := cI) (K := K) ?_ ?_ N 0 (Nat.zero_add N) _ _
  case refine_2 => exact fun d' a' => hq d' a'
  intro j hj Q' d' a' hy
  have hjK : j * K + K ≤ N * K := by
    rw [← Nat.succ_mul]
    exact Nat.mul_le_mul_right K hj
  have hsize : (gd_st T cA cI N K j).heap.size = T.heap.size + 1 + j := gd_size
  have hsize2 : ((gd_st T cA cI N K j).setTop g).heap.size = T.heap.size + 1 + j := gd_size
  rw [wp_bind']
  refine gd_mrow (k := kI) (comp := comp) hn2 hK hI hIk g1 g2 (by show (gd_st T cA cI N K j).heap.size + 1 ≤ _; omega) (by show T.slotsUsed + N + j * K + K ≤ _; omega) (fun a2 => ?_)
  rw [wp_bind', Jvm.W.writeLoc]
  have hc : ((gd_st T cA cI N K j).pushCell (gd_row cI K)).heap[T.heap.size]? = some (arrV cA N (gd_lead T.heap.size j)) := by
    show ((gd_heap T.heap cA cI N K j).push (gd_row cI K))[T.heap.size]? = _
    rw [Array.getElem?_push, gd_size, if_neg (by omega), gd_top]
  refine ⟨arrV cA N (gd_lead T.heap.size j), hc, (fun h => by cases h), by rw [arrV_size]; exact hj, ?_, ?_⟩
  · have hf : ∀ x : Addr, T.fitsSlot cA .none j (.ref x) = true := fun x => by
      simp only [State.fitsSlot, State.slotType?, hA, Option.bind_eq_bind, Option.bind_some, hAk]
      rfl
    exact hf _
  · rw [wp_pure', hsize2, State.heap_setTop, gd_fill, State.pushCell_setTop, State.setCell_setTop, gd_st1]
    exact hy _ _
end GRIDL
section GRIDX
variable {p : Program} {l : Launch} {e : Env} {R : Room} {s : State} {m : MethodId} {args : Array Value} {below : List Frame} {meth : Method} {c : Code} {H : Heap} {locs : List Loc} {cells slots : Nat} {Q : State → Prop}
/-- multianewarray of int[N][K] over the kit's W -/
theorem gd_W {cc : ByteArray} {own : String} {index pc N K : Nat} {n1 n2 : Int32} {ls : Array Slot} {rest : List Value} (hexec : p.tables.exec = Jvm.exec) (hb : c.code = cc) (hown : s.vm.findClass own = some m.cls) (hclink : (Cond.classLink own index "[[I").before args s = true) (hover : (Cond.arrayOver (.array .int)).before #[] s = true) (harr : (Cond.arrayClass .int).before args s = true)
    (hdg : decode cc pc = .ok (.multianewarray index 2, 4)) (hn1 : ¬ n1 < 0) (hN : n1.toNatClampNeg = N) (hn2 : ¬ n2 < 0) (hK : n2.toNatClampNeg = K) (hN1 : N ≤ 1000) (hK1 : K ≤ 1000) (hcells : cells + (1 + N) ≤ R.cells) (hslots : slots + (N + N * K) ≤ R.slots)
    (kk : ∀ cA cI : ClassId, s.vm.findClass "[[I" = some cA → s.vm.findClass "[I" = some cI → W p l e R s m args below meth c (gd_heap H cA cI N K N) (locs ++ gd_locs H.size N) (cells + 1 + N) (slots + N + N * K) Q (F0 m (pc + 4) ls (.ref H.size :: rest))) :
    W p l e R s m args below meth c H locs cells slots Q (F0 m pc ls (.int n2 :: .int n1 :: rest)) := by
  intro T hT X
  subst hT
  subst hb
  have hpl : e.platform.magicAccessors = ({} : Platform).magicAccessors := by rw [X.admits.platform]
  obtain ⟨cI, cA, kA, hcI, -, hkA, hkindA, hcA⟩ := arrayOverA_spec hover
  obtain ⟨cI', kI, comp, hcI', hkI, hkindI⟩ := Cond.arrayClass_spec harr
  have hsame : cI' = cI := Option.some.inj (hcI'.symm.trans hcI)
  subst hsame
  obtain ⟨cA', hcA', hcl⟩ := Cond.classLink_spec hown hclink e.platform hpl
  have hsame2 : cA' = cA := Option.some.inj (hcA'.symm.trans hcA)
  subst hsame2
  obtain ⟨hg1, hwarm1, hready1⟩ := State.classEntry (e := e) X.warmed hcl
  generalize T.vm.noted m.cls index (.cls cA') = vm1 at hg1 hwarm1 hready1
  obtain ⟨kA1, hkA1, heA⟩ := hwarm1.alike.2.2 _ _ hkA
  obtain ⟨kI1, hkI1, heI⟩ := hwarm1.alike.2.2 _ _ hkI
  have hkindA1 : kA1.kind = .array cI' (.array .int) := by rw [heA]; exact hkindA
  have hkindI1 : kI1.kind = .array comp .int := by rw [heI]; exact hkindI
  have hlim : ∀ n : Nat, n ≤ 1000 → n ≤ e.platform.arrayLengthLimit ∧ n * 4 ≤ e.platform.maxHeapBytes := fun n hn => by
    rw [Launch.admits_arrayLengthLimit X.admits, Launch.admits_maxHeapBytes X.admits]
    omega
  obtain ⟨r1, r2⟩ := X.roomAbove hcells hslots
  obtain ⟨t, a1, b1⟩ := kk cA' cI' hcA hcI (gd_st (T.setVm vm1) cA' cI' N K N) rfl (gd_stand (X.noted hwarm1) cA' cI' N K N)
  refine ⟨t, ?_, b1⟩
  refine Steps.instr (c := c) (by simpa using X.here) ?_
  have hdg' : decode c.code (F0 m pc ls (.int n2 :: .int n1 :: rest)).pc = .ok (.multianewarray index 2, 4) := hdg
  rw [hdg']
  dsimp only
  rw [hexec]
  show wp (Jvm.Op.multianewarray.sem index 2) _ _ e false [] _
  unfold Jvm.Op.multianewarray.sem
  rw [wp_bind', Jvm.W.resolveClassAt_transfer (State.method?_setTop _ X.here.top) hg1 hready1, State.setVm_setTop, Jvm.W.resolveClassAt_ready (s := (T.setVm vm1).setTop (F0 m pc ls (.int n2 :: .int n1 :: rest))) (State.method?_setTop (s := T.setVm vm1) _ X.here.top) hready1]
  rw [wp_bind', Jvm.W.popN 2, if_neg (by decide)]
  refine ⟨_, State.topJava?_setTop' (s := T.setVm vm1) _ X.here.top, [.int n1, .int n2], rest, rfl, rfl, ?_⟩
  simp only [List.mapM_cons, List.mapM_nil, wp_bind', wp_pure', State.setTop_setTop]
  refine gd_make (T := T.setVm vm1) (kA := kA1) (kI := kI1) (comp := comp) hn1 hN hn2 hK hkA1 hkindA1 hkI1 hkindI1 (hlim N hN1).1 (hlim N hN1).2 (hlim K hK1).1 (hlim K hK1).2 r1 r2 (fun d a => ?_)
  refine ⟨_, State.topJava?_setTop' (s := gd_st (T.setVm vm1) cA' cI' N K N) _ X.here.top, ?_⟩
  intro acts
  rw [State.setTop_setTop, afterInstr_ok]
  exact a1
end GRIDX
