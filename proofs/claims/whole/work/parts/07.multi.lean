/-! ===== an array of arrays of ints ===== -/
/-- what the outer one holds when i inner ones are made, behind it -/
def mu_o (h i : Nat) : Nat → Value := fun j => if j < i then .ref (h + 1 + j) else .null
def mu_st (T : State) (cA cI : ClassId) (N K : Nat) : Nat → State
  | 0 => T.pushCell (arrV cA N (mu_o T.heap.size 0))
  | i + 1 => ((mu_st T cA cI N K i).pushCell (arrV cI K (fun _ => .int 0))).setCell T.heap.size (arrV cA N (mu_o T.heap.size (i + 1)))
theorem mu_o0 (h : Nat) : mu_o h 0 = fun _ => Value.null := funext fun j => if_neg (Nat.not_lt_zero _)
theorem mu_os (h i : Nat) : updV (mu_o h i) i (.ref (h + 1 + i)) = mu_o h (i + 1) := by
  funext j
  unfold updV mu_o
  by_cases hj : j = i
  · subst hj
    rw [if_pos rfl, if_pos (by omega)]
  · rw [if_neg hj]
    by_cases hlt : j < i
    · rw [if_pos hlt, if_pos (by omega)]
    · rw [if_neg hlt, if_neg (by omega)]
section MULTI
variable {T : State} {cA cI : ClassId} {N K : Nat}
theorem mu_facts : ∀ i, (mu_st T cA cI N K i).heap.size = T.heap.size + 1 + i ∧ (mu_st T cA cI N K i).heap[T.heap.size]? = some (arrV cA N (mu_o T.heap.size i)) ∧ (mu_st T cA cI N K i).vm = T.vm ∧ (mu_st T cA cI N K i).slotsUsed = T.slotsUsed + N + i * K
  | 0 => ⟨by simp [mu_st], by simp [mu_st], rfl, by simp [mu_st, arrV_size]⟩
  | i + 1 => by
    obtain ⟨f1, f2, f3, f4⟩ := mu_facts i
    have hlt : T.heap.size < (mu_st T cA cI N K i).heap.size := by omega
    have f2' : ((mu_st T cA cI N K i).pushCell (arrV cI K (fun _ => .int 0))).heap[T.heap.size]? = some (arrV cA N (mu_o T.heap.size i)) := by
      rw [State.heap_pushCell_of_lt (h := hlt)]
      exact f2
    refine ⟨?_, State.heap_setCell_self f2', by simp [mu_st, f3], ?_⟩
    · simp [mu_st, State.setCell, f1]
      omega
    · simp [mu_st, f4, arrV_size, Nat.succ_mul]
      omega
theorem mu_top (f : JFrame) : ∀ i, mu_st (T.setTop f) cA cI N K i = (mu_st T cA cI N K i).setTop f
  | 0 => rfl
  | i + 1 => by simp only [mu_st, mu_top f i, State.heap_setTop, State.pushCell_setTop, State.setCell_setTop]
theorem mu_old {a : Addr} (ha : a < T.heap.size) : ∀ i, (mu_st T cA cI N K i).heap[a]? = T.heap[a]?
  | 0 => State.heap_pushCell_of_lt _ _ ha
  | i + 1 => by
    have f1 := (mu_facts (T := T) (cA := cA) (cI := cI) (N := N) (K := K) i).1
    show (((mu_st T cA cI N K i).pushCell _).setCell T.heap.size _).heap[a]? = _
    have hlt : a < (mu_st T cA cI N K i).heap.size := Nat.lt_of_lt_of_le ha (by rw [f1]; omega)
    rw [State.heap_setCell_other (Nat.ne_of_gt ha), State.heap_pushCell_of_lt (h := hlt)]
    exact mu_old ha i
theorem mu_inn : ∀ i j, j < i → (mu_st T cA cI N K i).heap[T.heap.size + 1 + j]? = some (arrV cI K (fun _ => .int 0))
  | 0, _, h => absurd h (Nat.not_lt_zero _)
  | i + 1, j, h => by
    have f1 := (mu_facts (T := T) (cA := cA) (cI := cI) (N := N) (K := K) i).1
    show (((mu_st T cA cI N K i).pushCell _).setCell T.heap.size _).heap[T.heap.size + 1 + j]? = _
    rw [State.heap_setCell_other (show T.heap.size ≠ T.heap.size + 1 + j by omega)]
    by_cases hj : j < i
    · have hlt : T.heap.size + 1 + j < (mu_st T cA cI N K i).heap.size := by
        rw [f1]
        omega
      rw [State.heap_pushCell_of_lt (h := hlt)]
      exact mu_inn i j hj
    · have e : j = i := by omega
      subst e
      rw [← f1]
      exact State.heap_pushCell_size _ _
theorem mu_stand {p : Program} {l : Launch} {e : Env} {R : Room} {s : State} {m : MethodId} {args : Array Value} {below : List Frame} {meth : Method} {c : Code} {locs : List Loc} {cells slots : Nat} (X : Stand p l e R s m args below meth c T locs cells slots) : ∀ i, ∃ J : List Loc, (∀ q ∈ J, q.base = T.heap.size) ∧ Stand p l e R s m args below meth c (mu_st T cA cI N K i) (locs ++ J) (cells + 1 + i) (slots + N + i * K)
  | 0 => by
    have h := X.pushed (arrV cA N (mu_o T.heap.size 0))
    rw [arrV_size] at h
    exact ⟨[], fun q hq => (by cases hq), by simpa [mu_st] using h⟩
  | i + 1 => by
    obtain ⟨J, hJ, Xi⟩ := mu_stand X i
    obtain ⟨f1, f2, f3, f4⟩ := mu_facts (T := T) (cA := cA) (cI := cI) (N := N) (K := K) i
    have f2' : ((mu_st T cA cI N K i).pushCell (arrV cI K (fun _ => .int 0))).heap[T.heap.size]? = some (arrV cA N (mu_o T.heap.size i)) := by
      have hlt : T.heap.size < (mu_st T cA cI N K i).heap.size := by
        rw [f1]
        omega
      rw [State.heap_pushCell_of_lt (h := hlt)]
      exact f2
    have h := (Xi.pushed (arrV cI K (fun _ => .int 0))).stored f2' i (.ref (T.heap.size + 1 + i))
    rw [arrV_size, arrV_store, mu_os] at h
    refine ⟨J ++ [⟨T.heap.size, i⟩], fun q hq => ?_, ?_⟩
    · rcases List.mem_append.mp hq with h | h
      · exact hJ q h
      · rw [List.mem_singleton.mp h]
    · rw [← List.append_assoc, show slots + N + (i + 1) * K = slots + N + i * K + K by rw [Nat.succ_mul]; omega]
      exact h
end MULTI
section MULTIWP
variable {E : CtlPost} {e : Env} {d : Bool} {acts : List Action} {s : State}
theorem mu_new {c comp : ClassId} {k : Class} {ty : FieldType} {len : Nat} {v : Value} (hk : s.vm.classes[c]? = some k) (hkind : k.kind = .array comp ty) (h1 : ¬ len > e.platform.arrayLengthLimit) (h2 : ¬ len * componentBytes ty > e.platform.maxHeapBytes) (hf : fits ty v = true) (hv : v.isDefault = true) {Q : Addr → Pre}
    (h3 : s.heap.size < e.platform.maxCells) (h4 : s.slotsUsed + len ≤ e.platform.maxSlots) (hq : Q s.heap.size d acts (s.pushCell (arrV c len (fun _ => v)))) : wp (Jvm.newArray c len v) Q E e d acts s := by
  rw [← arrV_new] at hq
  have hall : ((Array.replicate len v).all (·.isDefault)) = true := by
    rw [Array.all_replicate]
    split <;> simp [hv]
  have hda : allocActs (Array.replicate len v) s.heap.size acts = acts := by
    unfold allocActs
    rw [if_pos hall]
  have hfit : ∀ i w, (Array.replicate len v)[i]? = some w → s.fitsSlot c .none i w = true := by
    intro i w hw
    rw [Array.getElem?_replicate] at hw
    split at hw
    · cases hw
      simp [State.fitsSlot, State.slotType?, hk, hkind, hf]
    · cases hw
  simp only [Jvm.newArray, Jvm.arrayFits, wp_bind', W.ask, W.ite, h1, if_false, wp_pure', W.theClass, hk, hkind, h2, W.alloc, W.stop, Option.some.injEq, exists_eq_left', Array.size_replicate, hda]
  rw [if_neg (by omega)]
  exact ⟨h3, h4, hfit, hq⟩
theorem mu_one {cI cc : ClassId} {kc : Class} {n : Int32} {K : Nat} (hkc : s.vm.classes[cI]? = some kc) (hkind : kc.kind = .array cc .int) (hn : ¬ n < 0) (hK : n.toNatClampNeg = K) (h1 : ¬ K > e.platform.arrayLengthLimit) (h2 : ¬ K * 4 > e.platform.maxHeapBytes) (h3 : s.heap.size < e.platform.maxCells) (h4 : s.slotsUsed + K ≤ e.platform.maxSlots)
    {Q : Addr → Pre} (hq : Q s.heap.size d acts (s.pushCell (arrV cI K (fun _ => .int 0)))) : wp (multianewarray.make cI [n]) Q E e d acts s := by
  subst hK
  rw [multianewarray.make]
  simp only [wp_bind', W.ite, hn, if_false, wp_pure', W.theClass, hkc, hkind, Option.some.injEq, exists_eq_left']
  exact mu_new hkc hkind h1 h2 rfl rfl h3 h4 hq
theorem mu_two {cA cI cc : ClassId} {k kc : Class} {n n2 : Int32} {N K : Nat} (hk : s.vm.classes[cA]? = some k) (hkind : k.kind = .array cI (.array .int)) (hkc : s.vm.classes[cI]? = some kc) (hkindc : kc.kind = .array cc .int) (hn : ¬ n < 0) (hN : n.toNatClampNeg = N) (hn2 : ¬ n2 < 0) (hK : n2.toNatClampNeg = K)
    (h1 : ¬ N > e.platform.arrayLengthLimit) (h2 : ¬ N * 4 > e.platform.maxHeapBytes) (h3 : ¬ K > e.platform.arrayLengthLimit) (h4 : ¬ K * 4 > e.platform.maxHeapBytes) (h5 : s.heap.size + 1 + N ≤ e.platform.maxCells) (h6 : s.slotsUsed + N + N * K ≤ e.platform.maxSlots)
    {Q : Addr → Pre} (hq : ∀ d' acts', Q s.heap.size d' acts' (mu_st s cA cI N K N)) : wp (multianewarray.make cA [n, n2]) Q E e d acts s := by
  subst hN
  have hnone : ([n2].find? (· < 0)) = none := by simp [hn2]
  rw [multianewarray.make]
  simp only [wp_bind', W.ite, hn, if_false, wp_pure', W.theClass, hk, hkind, Option.some.injEq, exists_eq_left']
  refine mu_new hk hkind h1 h2 rfl rfl (by omega) (by have := Nat.zero_le (n.toNatClampNeg * K); omega) ?_
  simp only [hnone]
  rw [ite_self, wp_bind', Std.Legacy.Range.forIn_eq_forIn_range']
  have hsz : ([:n.toNatClampNeg] : Std.Legacy.Range).size = n.toNatClampNeg := by simp [Std.Legacy.Range.size]
  rw [hsz]
  show wp (forIn (List.range' 0 n.toNatClampNeg 1) PUnit.unit _) _ E e d acts _
  refine wp_forIn_inv (fun rest s' => ∃ i, i ≤ n.toNatClampNeg ∧ rest = List.range' i (n.toNatClampNeg - i) ∧ s' = mu_st s cA cI n.toNatClampNeg K i) _ _ ⟨0, Nat.zero_le _, rfl, by rw [← mu_o0 s.heap.size]; rfl⟩ ?_ ?_
  · rintro x rest s' d' acts' Q' ⟨i, hi, hl, rfl⟩ hnext
    by_cases hlt : i < n.toNatClampNeg
    · rw [show n.toNatClampNeg - i = (n.toNatClampNeg - (i + 1)) + 1 from by omega, List.range'_succ] at hl
      obtain ⟨rfl, hrest⟩ := List.cons.inj hl
      obtain ⟨f1, f2, f3, f4⟩ := mu_facts (T := s) (cA := cA) (cI := cI) (N := n.toNatClampNeg) (K := K) x
      have hmul : x * K + K ≤ n.toNatClampNeg * K := by
        have := Nat.mul_le_mul_right K (show x + 1 ≤ n.toNatClampNeg from hlt)
        rw [Nat.succ_mul] at this
        exact this
      simp only [wp_bind']
      refine mu_one (by rw [f3]; exact hkc) hkindc hn2 hK h3 h4 (by rw [f1]; omega) (by rw [f4]; omega) ?_
      have hlt0 : s.heap.size < (mu_st s cA cI n.toNatClampNeg K x).heap.size := by rw [f1]; omega
      simp only [wp_bind', W.writeLoc, wp_pure']
      refine ⟨arrV cA n.toNatClampNeg (mu_o s.heap.size x), by rw [State.heap_pushCell_of_lt (h := hlt0)]; exact f2, (fun q => by cases q), by rw [arrV_size]; exact hlt, ?_, hnext _ _ _ ⟨x + 1, hlt, hrest, ?_⟩⟩
      · simp [State.fitsSlot, State.slotType?, f3, hk, hkind, arrV]
        rfl
      · rw [f1, arrV_store, mu_os]
        rfl
    · rw [show n.toNatClampNeg - i = 0 from by omega] at hl
      cases hl
  · rintro s' d' acts' ⟨i, hi, hl, rfl⟩
    have hiN : i = n.toNatClampNeg := by
      by_cases h : i < n.toNatClampNeg
      · rw [show n.toNatClampNeg - i = (n.toNatClampNeg - (i + 1)) + 1 from by omega, List.range'_succ] at hl
        cases hl
      · omega
    subst hiN
    simp only [wp_pure']
    exact hq _ _
end MULTIWP
theorem mu_W {p : Program} {l : Launch} {e : Env} {R : Room} {s : State} {m : MethodId} {args : Array Value} {below : List Frame} {meth : Method} {c : Code} {H : Heap} {locs : List Loc} {cells slots : Nat} {Q : State → Prop} {cc : ByteArray} (hexec : p.tables.exec = Jvm.exec) (hb : c.code = cc) {own : String} {index : Nat} (hown : s.vm.findClass own = some m.cls)
    (hclink : (Cond.classLink own index "[[I").before args s = true) (hover : (Cond.arrayOver (.array .int)).before args s = true) (harr : (Cond.arrayClass .int).before args s = true) {pc : Nat} {ls : Array Slot} {rest : List Value} (hdg : decode cc pc = .ok (.multianewarray index 2, 4)) {n k : Int32} {N K : Nat} (hn : ¬ n < 0) (hN : n.toNatClampNeg = N) (hk : ¬ k < 0) (hK : k.toNatClampNeg = K) (hN2 : N ≤ 1000) (hK2 : K ≤ 1000)
    (hcells : cells + (1 + N) ≤ R.cells) (hslots : slots + (N + N * K) ≤ R.slots)
    (kk : ∀ (cA cI : ClassId) (H1 : Heap) (J : List Loc), s.vm.findClass ("[" ++ (FieldType.array .int).toString) = some cA → s.vm.findClass ("[" ++ FieldType.int.toString) = some cI → (∀ q ∈ J, q.base = H.size) → H1.size = H.size + 1 + N → (∀ q, q < H.size → H1[q]? = H[q]?) → H1[H.size]? = some (arrV cA N (mu_o H.size N)) → (∀ j, j < N → H1[H.size + 1 + j]? = some (arrV cI K (fun _ => .int 0))) →
      W p l e R s m args below meth c H1 (locs ++ J) (cells + 1 + N) (slots + N + N * K) Q (F0 m (pc + 4) ls (.ref H.size :: rest))) : W p l e R s m args below meth c H locs cells slots Q (F0 m pc ls (.int k :: .int n :: rest)) := by
  intro T hT X
  subst hT
  subst hb
  have hpl : e.platform.magicAccessors = ({} : Platform).magicAccessors := by rw [X.admits.platform]
  obtain ⟨cI, cA, kA, hcI, -, hkA, hkindA, hnameA⟩ := arrayOverA_spec hover
  obtain ⟨cI', kC, cc, hcI', hkC, hkindC⟩ := Cond.arrayClass_spec harr
  have e1 : cI' = cI := Option.some.inj (hcI'.symm.trans hcI)
  subst e1
  obtain ⟨c0, hfc0, hcl⟩ := Cond.classLink_spec hown hclink e.platform hpl
  have e2 : c0 = cA := Option.some.inj (hfc0.symm.trans hnameA)
  subst e2
  obtain ⟨hg₁, hwarm₁, hready₁⟩ := State.classEntry (e := e) X.warmed hcl
  generalize T.vm.noted m.cls index (.cls c0) = vm₁ at hg₁ hwarm₁ hready₁
  have hal : s.vm.Alike vm₁ := hwarm₁.alike
  obtain ⟨kA₁, hkA₁, heA⟩ := hal.2.2 _ _ hkA
  obtain ⟨kC₁, hkC₁, heC⟩ := hal.2.2 _ _ hkC
  have hkindA₁ : kA₁.kind = .array cI' (.array .int) := by rw [heA]; exact hkindA
  have hkindC₁ : kC₁.kind = .array cc .int := by rw [heC]; exact hkindC
  have X₁ := X.noted hwarm₁
  obtain ⟨hr1, hr2⟩ := X.roomAbove hcells hslots
  obtain ⟨J, hJ, XF⟩ := mu_stand (cA := c0) (cI := cI') (N := N) (K := K) X₁ N
  obtain ⟨f1, f2, f3, f4⟩ := mu_facts (T := T.setVm vm₁) (cA := c0) (cI := cI') (N := N) (K := K) N
  obtain ⟨t, a1, b1⟩ := kk c0 cI' (mu_st (T.setVm vm₁) c0 cI' N K N).heap J hnameA hcI hJ f1 (fun q hq => mu_old (T := T.setVm vm₁) hq N) f2 (fun j hj => mu_inn (T := T.setVm vm₁) N j hj) _ rfl XF
  refine ⟨t, ?_, b1⟩
  have hl1 : ¬ N > e.platform.arrayLengthLimit := by rw [Launch.admits_arrayLengthLimit X.admits]; omega
  have hh1 : ¬ N * 4 > e.platform.maxHeapBytes := by rw [Launch.admits_maxHeapBytes X.admits]; omega
  have hl2 : ¬ K > e.platform.arrayLengthLimit := by rw [Launch.admits_arrayLengthLimit X.admits]; omega
  have hh2 : ¬ K * 4 > e.platform.maxHeapBytes := by rw [Launch.admits_maxHeapBytes X.admits]; omega
  jvm_step X.here [hexec, hdg]
  simp only [multianewarray.sem, wp_bind', W.resolveClassAt_links (State.method?_setTop (F0 m pc ls (.int k :: .int n :: rest)) X.here.top) hg₁]
  rw [W.popN, if_neg (by decide)]
  refine ⟨F0 m pc ls (.int k :: .int n :: rest), State.topJava?_setTop' (s := T.setVm vm₁) _ X.here.top, [.int n, .int k], rest, rfl, rfl, ?_⟩
  simp only [List.mapM_cons, List.mapM_nil, wp_bind', wp_pure']
  refine mu_two (k := kA₁) (kc := kC₁) (cI := cI') (cc := cc) hkA₁ hkindA₁ hkC₁ hkindC₁ hn hN hk hK hl1 hh1 hl2 hh2 (by show T.heap.size + 1 + _ ≤ _; omega) (by show T.slotsUsed + _ + _ ≤ _; omega) (fun d' acts' => ?_)
  have eS : ((T.setTop (F0 m pc ls (.int k :: .int n :: rest))).setVm vm₁).setTop { F0 m pc ls (.int k :: .int n :: rest) with stack := rest } = (T.setVm vm₁).setTop { F0 m pc ls (.int k :: .int n :: rest) with stack := rest } := by
    show ((T.setVm vm₁).setTop _).setTop _ = _
    rw [State.setTop_setTop]
  rw [eS, mu_top]
  simp only [wp_bind', W.mark, W.pushRef, State.topJava?_setTop' _ XF.here.top, Option.some.injEq, exists_eq_left', State.setTop_setTop, State.heap_setTop]
  intro acts
  simp [jvm, XF.here.top]
  exact a1
