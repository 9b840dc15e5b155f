/-! new int[5][6], from the machine's own step -/
theorem z_AOA_spec {args : Array Value} {s : State} (h : (Cond.arrayOver (.array .int)).before args s = true) : ∃ (comp c : ClassId) (k : Class), s.vm.findClass (FieldType.array .int).toString = some comp ∧ s.vm.classes[c]? = some k ∧ k.kind = .array comp (.array .int) ∧ s.vm.findClass ("[" ++ (FieldType.array .int).toString) = some c := by
  unfold Cond.before at h
  simp only [Cond.holds, Cond.value, beq_iff_eq] at h
  obtain ⟨comp, hc, h⟩ := Option.bind_eq_some_iff.mp h
  obtain ⟨c, hi, h⟩ := Option.bind_eq_some_iff.mp h
  obtain ⟨k, hk, hb⟩ := Option.map_eq_some_iff.mp h
  obtain ⟨hlt, hp, -⟩ := Array.findIdx?_eq_some_iff_getElem.mp hi
  have hkk : s.vm.classes[c] = k := (Array.getElem?_eq_some_iff.mp hk).2
  rw [hkk] at hp
  cases hkind : k.kind with
  | array component ty =>
    rw [hkind] at hb hp
    simp at hb hp
    exact ⟨comp, c, k, hc, hk, by rw [hkind, hp, hb.1], hb.2⟩
  | _ => rw [hkind] at hb; simp at hb
/-- the outer array once i of its rows are in -/
def z_mO (cA : ClassId) (h i : Nat) : Cell := arrV cA 5 (fun j => va_rf (if j < i then some (h + 1 + j) else none))
/-- a row -/
def z_mR (cI : ClassId) : Cell := arrV cI 6 (fun _ => .int 0)
/-- the state once i rows are in: the outer array stands behind all that was there, the rows behind it -/
def z_mS (S : State) (cA cI : ClassId) : Nat → State
  | 0 => S.pushCell (z_mO cA S.heap.size 0)
  | i + 1 => ((z_mS S cA cI i).pushCell (z_mR cI)).setCell S.heap.size (z_mO cA S.heap.size (i + 1))
theorem z_mO_size (cA : ClassId) (h i : Nat) : (z_mO cA h i).slots.size = 5 := arrV_size ..
theorem z_mR_size (cI : ClassId) : (z_mR cI).slots.size = 6 := arrV_size ..
theorem z_mO_set (cA : ClassId) (h i : Nat) : (z_mO cA h i).setSlot i (.ref (h + 1 + i)) = z_mO cA h (i + 1) := by
  unfold z_mO
  rw [arrV_store]
  refine congrArg (arrV cA 5) (funext fun j => ?_)
  unfold updV
  by_cases e : j = i
  · rw [if_pos e, if_pos (by omega), e]
    rfl
  · by_cases h2 : j < i
    · rw [if_neg e]
      show va_rf (if j < i then some (h + 1 + j) else none) = va_rf (if j < i + 1 then some (h + 1 + j) else none)
      rw [if_pos h2, if_pos (by omega)]
    · rw [if_neg e]
      show va_rf (if j < i then some (h + 1 + j) else none) = va_rf (if j < i + 1 then some (h + 1 + j) else none)
      rw [if_neg h2, if_neg (by omega)]
theorem z_mS_facts (S : State) (cA cI : ClassId) (i : Nat) : (z_mS S cA cI i).heap.size = S.heap.size + 1 + i ∧ (z_mS S cA cI i).heap[S.heap.size]? = some (z_mO cA S.heap.size i) ∧ (z_mS S cA cI i).vm = S.vm ∧ (z_mS S cA cI i).slotsUsed = S.slotsUsed + 5 + i * 6 ∧ (∀ x : Nat, x < S.heap.size → (z_mS S cA cI i).heap[x]? = S.heap[x]?) ∧ ∀ j : Nat, j < i → (z_mS S cA cI i).heap[S.heap.size + 1 + j]? = some (z_mR cI) := by
  induction i with
  | zero =>
    refine ⟨?_, State.heap_pushCell_size _ _, rfl, ?_, fun x hx => State.heap_pushCell_of_lt _ _ hx, fun j h => absurd h (Nat.not_lt_zero _)⟩
    · show (S.heap.push _).size = _
      rw [Array.size_push]
    · show S.slotsUsed + (z_mO cA S.heap.size 0).slots.size = _
      rw [z_mO_size]
  | succ i ih =>
    obtain ⟨f1, f2, f3, f4, f5, f6⟩ := ih
    have hb : ((z_mS S cA cI i).pushCell (z_mR cI)).heap[S.heap.size]? = some (z_mO cA S.heap.size i) := (State.heap_pushCell_of_lt _ _ (show S.heap.size < (z_mS S cA cI i).heap.size by omega)).trans f2
    refine ⟨?_, State.heap_setCell_self hb, f3, ?_, fun x hx => ?_, fun j hj => ?_⟩
    · show (((z_mS S cA cI i).heap.push (z_mR cI)).setIfInBounds S.heap.size _).size = _
      rw [Array.size_setIfInBounds, Array.size_push, f1]
      omega
    · show (z_mS S cA cI i).slotsUsed + (z_mR cI).slots.size = _
      rw [z_mR_size, f4]
      omega
    · show (((z_mS S cA cI i).pushCell (z_mR cI)).setCell S.heap.size (z_mO cA S.heap.size (i + 1))).heap[x]? = _
      rw [State.heap_setCell_other (show S.heap.size ≠ x by omega), State.heap_pushCell_of_lt _ _ (show x < (z_mS S cA cI i).heap.size by omega)]
      exact f5 x hx
    · show (((z_mS S cA cI i).pushCell (z_mR cI)).setCell S.heap.size (z_mO cA S.heap.size (i + 1))).heap[S.heap.size + 1 + j]? = _
      rw [State.heap_setCell_other (show S.heap.size ≠ S.heap.size + 1 + j by omega)]
      by_cases h2 : j < i
      · rw [State.heap_pushCell_of_lt _ _ (show S.heap.size + 1 + j < (z_mS S cA cI i).heap.size by omega)]
        exact f6 j h2
      · rw [show S.heap.size + 1 + j = (z_mS S cA cI i).heap.size by omega]
        exact State.heap_pushCell_size _ _
theorem z_mS_top (S : State) (f : JFrame) (cA cI : ClassId) (i : Nat) : z_mS (S.setTop f) cA cI i = (z_mS S cA cI i).setTop f := by
  induction i with
  | zero => rfl
  | succ i ih =>
    show ((z_mS (S.setTop f) cA cI i).pushCell (z_mR cI)).setCell S.heap.size (z_mO cA S.heap.size (i + 1)) = _
    rw [ih]
    rfl
section ZM
variable {p : Program} {l : Launch} {e : Env} {R : Room} {s : State} {m : MethodId} {args : Array Value} {below : List Frame} {meth : Method} {c : Code} {T : State} {locs : List Loc} {kc ks : Nat}
theorem z_mS_stand (X : Stand p l e R s m args below meth c T locs kc ks) (cA cI : ClassId) (i : Nat) : Stand p l e R s m args below meth c (z_mS T cA cI i) locs (kc + 1 + i) (ks + 5 + i * 6) := by
  induction i with
  | zero =>
    have h := X.pushed (z_mO cA T.heap.size 0)
    rw [z_mO_size] at h
    rw [Nat.zero_mul]
    exact h
  | succ i ih =>
    obtain ⟨f1, f2, -, -, -, -⟩ := z_mS_facts T cA cI i
    have h1 := ih.pushed (z_mR cI)
    have hb : ((z_mS T cA cI i).pushCell (z_mR cI)).heap[T.heap.size]? = some (z_mO cA T.heap.size i) := (State.heap_pushCell_of_lt _ _ (show T.heap.size < (z_mS T cA cI i).heap.size by omega)).trans f2
    have h2 := h1.stored hb i (.ref (T.heap.size + 1 + i))
    rw [z_mO_set, z_mR_size, show ks + 5 + i * 6 + 6 = ks + 5 + (i + 1) * 6 by omega] at h2
    exact h2.dropFresh (fun x hx => by rw [List.mem_singleton.mp hx]; exact X.heapGrown)
theorem z_make1 {E : CtlPost} {d : Bool} {acts : List Action} {S : State} {cI co : ClassId} {kI : Class} (hk : S.vm.classes[cI]? = some kI) (hkd : kI.kind = .array co .int) (hl : ¬ 6 > e.platform.arrayLengthLimit) (hh : ¬ 6 * 4 > e.platform.maxHeapBytes) (h1 : S.heap.size < e.platform.maxCells) (h2 : S.slotsUsed + 6 ≤ e.platform.maxSlots) {Q : Addr → Pre} (hq : ∀ acts', Q S.heap.size d acts' (S.pushCell (z_mR cI))) : wp (Jvm.Op.multianewarray.make cI [zI 6]) Q E e d acts S := by
  have n6 : (zI 6).toNatClampNeg = 6 := by decide +kernel
  have p6 : ¬ zI 6 < 0 := by decide +kernel
  rw [Jvm.Op.multianewarray.make]
  simp only [wp_bind', Jvm.W.ite, p6, if_false, wp_pure', Jvm.W.theClass, hk, hkd, Option.some.injEq, exists_eq_left', n6]
  refine Jvm.W.newArray_of hk hkd hl hh h1 h2 rfl (fun acts' => ?_)
  have h3 := hq acts'
  unfold z_mR at h3
  rw [← arrV_new] at h3
  exact h3
theorem z_make2 {E : CtlPost} {d : Bool} {acts : List Action} {S : State} {cA cI co : ClassId} {kA kI : Class} (hkA : S.vm.classes[cA]? = some kA) (hdA : kA.kind = .array cI (.array .int)) (hkI : S.vm.classes[cI]? = some kI) (hdI : kI.kind = .array co .int) (hl5 : ¬ 5 > e.platform.arrayLengthLimit) (hl6 : ¬ 6 > e.platform.arrayLengthLimit) (hh5 : ¬ 5 * 4 > e.platform.maxHeapBytes) (hh6 : ¬ 6 * 4 > e.platform.maxHeapBytes) (h1 : S.heap.size + 6 ≤ e.platform.maxCells) (h2 : S.slotsUsed + 35 ≤ e.platform.maxSlots) {Q : Addr → Pre} (hq : ∀ d' acts', Q S.heap.size d' acts' (z_mS S cA cI 5)) : wp (Jvm.Op.multianewarray.make cA [zI 5, zI 6]) Q E e d acts S := by
  have n5 : (zI 5).toNatClampNeg = 5 := by decide +kernel
  have p5 : ¬ zI 5 < 0 := by decide +kernel
  have z5 : (zI 5 == 0) = false := by decide +kernel
  rw [Jvm.Op.multianewarray.make]
  simp only [wp_bind', Jvm.W.ite, p5, if_false, wp_pure', Jvm.W.theClass, hkA, hdA, Option.some.injEq, exists_eq_left', n5, z5, Bool.false_eq_true]
  refine Jvm.W.newArray_of hkA hdA hl5 hh5 (by omega) (by omega) rfl (fun acts' => ?_)
  rw [show S.pushCell { cls := cA, slots := Array.replicate 5 .null } = z_mS S cA cI 0 from congrArg S.pushCell ((arrV_new cA 5 .null).trans (congrArg (arrV cA 5) (funext fun j => by rw [if_neg (Nat.not_lt_zero j)]; rfl)))]
  rw [wp_bind', Std.Legacy.Range.forIn_eq_forIn_range']
  show wp (forIn [0, 1, 2, 3, 4] PUnit.unit _) _ E e _ _ _
  refine wp_forIn_inv (fun rest S' => ∃ i : Nat, i ≤ 5 ∧ rest = List.drop i [0, 1, 2, 3, 4] ∧ S' = z_mS S cA cI i) _ _ ⟨0, by decide, rfl, rfl⟩ ?_ ?_
  · rintro x rest S' d' acts' Q' ⟨i, hi, hl, rfl⟩ hnext
    obtain ⟨hx, hr, h5⟩ : x = i ∧ rest = List.drop (i + 1) [0, 1, 2, 3, 4] ∧ i < 5 := by
      rcases (show i = 0 ∨ i = 1 ∨ i = 2 ∨ i = 3 ∨ i = 4 ∨ i = 5 by omega) with rfl | rfl | rfl | rfl | rfl | rfl <;> simp at hl <;> exact ⟨hl.1, by rw [hl.2]; rfl, by decide⟩
    subst hx
    subst hr
    obtain ⟨f1, f2, f3, f4, -, -⟩ := z_mS_facts S cA cI x
    simp only [wp_bind']
    refine z_make1 (by rw [f3]; exact hkI) hdI hl6 hh6 (by omega) (by omega) (fun acts'' => ?_)
    simp only [Jvm.W.writeLoc, wp_bind', wp_pure']
    refine ⟨z_mO cA S.heap.size x, (State.heap_pushCell_of_lt _ _ (show S.heap.size < (z_mS S cA cI x).heap.size by omega)).trans f2, by unfold z_mO arrV; simp, by rw [z_mO_size]; exact h5, ?_, ?_⟩
    · show ((z_mS S cA cI x).pushCell (z_mR cI)).fitsSlot cA .none x (.ref _) = true
      simp [State.fitsSlot, State.slotType?, f3, hkA, hdA]
      rfl
    · rw [f1, z_mO_set]
      exact hnext _ _ _ ⟨x + 1, h5, rfl, rfl⟩
  · rintro S' d' acts' ⟨i, hi, hl, rfl⟩
    have h5 : i = 5 := by
      rcases (show i = 0 ∨ i = 1 ∨ i = 2 ∨ i = 3 ∨ i = 4 ∨ i = 5 by omega) with rfl | rfl | rfl | rfl | rfl | rfl <;> first | rfl | (simp at hl)
    subst h5
    simp only [wp_pure']
    exact hq _ _
set_option maxHeartbeats 4000000 in
/-- multianewarray of int[5][6] -/
theorem z_multi (X : Stand p l e R s m args below meth c T locs kc ks) (hexec : p.tables.exec = Jvm.exec) {own : String} {ix : Nat} (hown : s.vm.findClass own = some m.cls) (hcl : (Cond.classLink own ix "[[I").before args s = true) {cA cI co : ClassId} {kA kI : Class} (hfA : s.vm.findClass "[[I" = some cA) (hkA : s.vm.classes[cA]? = some kA) (hdA : kA.kind = .array cI (.array .int)) (hkI : s.vm.classes[cI]? = some kI) (hdI : kI.kind = .array co .int) {pc : Nat} {ls : Array Slot} {st : List Value} (hd : decode c.code pc = .ok (.multianewarray ix 2, 4)) (hc : kc + 6 ≤ R.cells) (hs : ks + 35 ≤ R.slots) : ∃ vm₁ : Vm, Stand p l e R s m args below meth c (z_mS (T.setVm vm₁) cA cI 5) locs (kc + 6) (ks + 35) ∧ ∀ tg, Steps p.tables e below ((z_mS (T.setVm vm₁) cA cI 5).setTop (F0 m (pc + 4) ls (.ref T.heap.size :: st))) tg → Steps p.tables e below (T.setTop (F0 m pc ls (.int (zI 6) :: .int (zI 5) :: st))) tg := by
  have hpl : e.platform.magicAccessors = ({} : Platform).magicAccessors := by rw [X.admits.platform]
  obtain ⟨c0, hf0, hL⟩ := Cond.classLink_spec hown hcl e.platform hpl
  have e0 : c0 = cA := Option.some.inj (hf0.symm.trans hfA)
  subst e0
  obtain ⟨hg, hw, -⟩ := State.classEntry (e := e) X.warmed hL
  generalize T.vm.noted m.cls ix (.cls c0) = vm₁ at hg hw
  obtain ⟨kA1, hkA1, eA⟩ := hw.alike.2.2 _ _ hkA
  obtain ⟨kI1, hkI1, eI⟩ := hw.alike.2.2 _ _ hkI
  have hdA1 : kA1.kind = .array cI (.array .int) := by rw [eA]; exact hdA
  have hdI1 : kI1.kind = .array co .int := by rw [eI]; exact hdI
  have XF := z_mS_stand (X.noted hw) c0 cI 5
  obtain ⟨r1, r2⟩ := X.roomAbove hc hs
  have l5 : ¬ 5 > e.platform.arrayLengthLimit := by rw [Launch.admits_arrayLengthLimit X.admits]; decide
  have l6 : ¬ 6 > e.platform.arrayLengthLimit := by rw [Launch.admits_arrayLengthLimit X.admits]; decide
  have b5 : ¬ 5 * 4 > e.platform.maxHeapBytes := by rw [Launch.admits_maxHeapBytes X.admits]; decide
  have b6 : ¬ 6 * 4 > e.platform.maxHeapBytes := by rw [Launch.admits_maxHeapBytes X.admits]; decide
  refine ⟨vm₁, XF, fun tg ht => ?_⟩
  jvm_step X.here [hexec, hd]
  simp only [Jvm.Op.multianewarray.sem, wp_bind', Jvm.W.resolveClassAt_links (t := T.setTop (F0 m pc ls (.int (zI 6) :: .int (zI 5) :: st))) (mm := m) (vm' := vm₁) (State.method?_setTop (F0 m pc ls (.int (zI 6) :: .int (zI 5) :: st)) X.here.top) hg]
  refine (Jvm.Op.popN_top (s := T.setVm vm₁) (f := F0 m pc ls (.int (zI 6) :: .int (zI 5) :: st)) (args := [.int (zI 5), .int (zI 6)]) (rest := st) X.here.top rfl).mpr ?_
  simp only [List.mapM_cons, List.mapM_nil, wp_bind', wp_pure']
  refine z_make2 (S := (T.setVm vm₁).setTop (F0 m pc ls st)) hkA1 hdA1 hkI1 hdI1 l5 l6 b5 b6 r1 r2 (fun d' acts' => ?_)
  rw [z_mS_top]
  simp only [wp_bind', Jvm.W.mark, Jvm.W.pushRef, State.topJava?_setTop' _ XF.here.top, Option.some.injEq, exists_eq_left', State.setTop_setTop, State.heap_setTop]
  intro acts
  simp [jvm, XF.here.top]
  exact ht
end ZM
