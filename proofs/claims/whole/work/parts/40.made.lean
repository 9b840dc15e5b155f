section ZH
variable {p : Program} {l : Launch} {e : Env} {R : Room} {s : State} {m : MethodId} {args : Array Value} {below : List Frame} {meth : Method} {c : Code} {cc : ByteArray} {own : String} {nL : Nat} {D : va_G} {κ : Nat → ClassId} {A : Nat → Prop} {kc ks : Nat} {Q : State → Prop}
variable {ws : va_W} {lv : List (Option Value)} {pc : Nat} {st : List Value}
def z_AOA (U : State) : Prop := (Cond.arrayOver (.array .int)).before #[] U = true
theorem z_AOA.moved {u U : State} (hvm : u.vm.Alike U.vm) (h : z_AOA u) : z_AOA U := by
  unfold z_AOA Cond.before at h ⊢
  simp only [Cond.holds, Cond.value, beq_iff_eq] at h ⊢
  obtain ⟨comp, hc, h⟩ := Option.bind_eq_some_iff.mp h
  obtain ⟨i, hi, h⟩ := Option.bind_eq_some_iff.mp h
  obtain ⟨k, hk, hb⟩ := Option.map_eq_some_iff.mp h
  obtain ⟨k', hk', he⟩ := hvm.2.2 _ _ hk
  have hkind : k'.kind = k.kind := by rw [he]
  have e1 := va_idx_bare U.vm comp
  have e2 := va_idx_bare u.vm comp
  have e3 : U.vm.bare = u.vm.bare := by first | exact hvm.bare_eq | exact hvm.bare_eq.symm
  rw [e3] at e1
  have hi2 := (e1.symm.trans e2).trans hi
  exact Option.bind_eq_some_iff.mpr ⟨comp, by rw [hvm.findClass]; exact hc, Option.bind_eq_some_iff.mpr ⟨i, hi2, Option.map_eq_some_iff.mpr ⟨k', hk', by rw [hkind, hvm.findClass]; exact hb⟩⟩⟩
/-- what the tables say, for those who make things too -/
def z_KK (D : va_G) (κ : Nat → ClassId) (U : State) : Prop := z_K D κ U ∧ (va_Nw (.methodLinkNest RX4 35 yX0_init RX5) U ∧ va_Nw (.methodLinkNest RX5 25 yX3_init RX5) U ∧ va_Nw (.methodLinkNest RX5 32 yX2_init RX5) U) ∧ va_AO "DotsOnGrass$Picture" U ∧ z_AOA U
theorem z_KK.warm {U : State} (h : z_KK D κ s) (hW : s.WarmedH U.vm) : z_KK D κ U := ⟨h.1.warm hW, ⟨h.2.1.1.warmM hW, h.2.1.2.1.warmM hW, h.2.1.2.2.warmM hW⟩, va_AO.moved hW.alike h.2.2.1, h.2.2.2.moved hW.alike⟩
theorem z_KK.same {U : State} (h : z_KK D κ s) (hv : s.vm = U.vm) : z_KK D κ U := ⟨h.1.same hv, ⟨h.2.1.1.same rfl hv, h.2.1.2.1.same rfl hv, h.2.1.2.2.same rfl hv⟩, va_AO.moved (u := s) (by rw [hv]; exact Vm.Alike.refl _) h.2.2.1, z_AOA.moved (u := s) (by rw [hv]; exact Vm.Alike.refl _) h.2.2.2⟩
/-- the machine goes on: the world is ws, the frame lv, the stack st -/
def z_H (p : Program) (l : Launch) (e : Env) (R : Room) (s : State) (m : MethodId) (args : Array Value) (below : List Frame) (meth : Method) (c : Code) (nL : Nat) (D : va_G) (A : Nat → Prop) (kc ks : Nat) (Q : State → Prop) (ws : va_W) (lv : List (Option Value)) (pc : Nat) (st : List Value) : Prop :=
  ∀ (ls : Array Slot) (H : Heap) (locs : List Loc), lv_has ls nL (z_as 0 lv) → va_P D vwCl ws H → va_D A ws → va_S A s.heap H locs → W p l e R s m args below meth c H locs kc ks Q (F0 m pc ls st)
def z_Y (p : Program) (s : State) (m : MethodId) (args : Array Value) (c : Code) (cc : ByteArray) (own : String) (nL : Nat) (D : va_G) (κ : Nat → ClassId) (A : Nat → Prop) : Prop :=
  CallFix p m c cc nL s args z_TT own ∧ z_KK D κ s ∧ ∀ q : Nat, s.heap.size ≤ q → A q
theorem h_iconst (Y : z_Y p s m args c cc own nL D κ A) {n : Int} (hd : decode cc pc = .ok (.iconst n, 1)) (k : z_H p l e R s m args below meth c nL D A kc ks Q ws lv (pc + 1) (.int (zI n) :: st)) : z_H p l e R s m args below meth c nL D A kc ks Q ws lv pc st :=
  fun ls H locs hl hP hD hS => lv_iconst Y.1.1 Y.1.2.1 hd rfl (k ls H locs hl hP hD hS)
theorem h_bipush (Y : z_Y p s m args c cc own nL D κ A) {n : Int} (hd : decode cc pc = .ok (.bipush n, 2)) (hn : (Int8.ofInt n).toInt32 = zI n) (k : z_H p l e R s m args below meth c nL D A kc ks Q ws lv (pc + 2) (.int (zI n) :: st)) : z_H p l e R s m args below meth c nL D A kc ks Q ws lv pc st :=
  fun ls H locs hl hP hD hS => lv_bipush Y.1.1 Y.1.2.1 hd hn (k ls H locs hl hP hD hS)
theorem h_sipush (Y : z_Y p s m args c cc own nL D κ A) {n : Int} (hd : decode cc pc = .ok (.sipush n, 3)) (hn : (Int16.ofInt n).toInt32 = zI n) (k : z_H p l e R s m args below meth c nL D A kc ks Q ws lv (pc + 3) (.int (zI n) :: st)) : z_H p l e R s m args below meth c nL D A kc ks Q ws lv pc st :=
  fun ls H locs hl hP hD hS => lv_sipush Y.1.1 Y.1.2.1 hd hn (k ls H locs hl hP hD hS)
theorem h_aload0 (Y : z_Y p s m args c cc own nL D κ A) {x : Nat} (hd : decode cc pc = .ok (.aload_n 0, 1)) (k : z_H p l e R s m args below meth c nL D A kc ks Q ws (some (.ref x) :: lv) (pc + 1) (.ref x :: st)) : z_H p l e R s m args below meth c nL D A kc ks Q ws (some (.ref x) :: lv) pc st :=
  fun ls H locs hl hP hD hS => lv_aload_n Y.1.1 Y.1.2.1 hd rfl (z_as_at hl (k := 0) rfl) (k ls H locs hl hP hD hS)
theorem h_iload0 (Y : z_Y p s m args c cc own nL D κ A) {x : Int} (hd : decode cc pc = .ok (.iload_n 0, 1)) (k : z_H p l e R s m args below meth c nL D A kc ks Q ws (some (.int (zI x)) :: lv) (pc + 1) (.int (zI x) :: st)) : z_H p l e R s m args below meth c nL D A kc ks Q ws (some (.int (zI x)) :: lv) pc st :=
  fun ls H locs hl hP hD hS => lv_iload_n Y.1.1 Y.1.2.1 hd rfl (z_as_at hl (k := 0) rfl) (k ls H locs hl hP hD hS)
theorem h_astore0 (Y : z_Y p s m args c cc own nL D κ A) {o : Option Value} {x : Nat} (hd : decode cc pc = .ok (.astore_n 0, 1)) (hn : 0 < nL) (ho : z_ok (o :: lv) 0 = true) (k : z_H p l e R s m args below meth c nL D A kc ks Q ws (some (.ref x) :: lv) (pc + 1) st) : z_H p l e R s m args below meth c nL D A kc ks Q ws (o :: lv) pc (.ref x :: st) :=
  fun ls H locs hl hP hD hS => lv_astore_n Y.1.1 Y.1.2.1 hd rfl hl hn rfl (fun ls2 hl2 => k ls2 H locs (z_as_set (k := 0) (v := .ref x) ho hl2) hP hD hS)
theorem h_istore0 (Y : z_Y p s m args c cc own nL D κ A) {o : Option Value} {x : Int} (hd : decode cc pc = .ok (.istore_n 0, 1)) (hn : 0 < nL) (ho : z_ok (o :: lv) 0 = true) (k : z_H p l e R s m args below meth c nL D A kc ks Q ws (some (.int (zI x)) :: lv) (pc + 1) st) : z_H p l e R s m args below meth c nL D A kc ks Q ws (o :: lv) pc (.int (zI x) :: st) :=
  fun ls H locs hl hP hD hS => lv_istore_n Y.1.1 Y.1.2.1 hd rfl hl hn rfl (fun ls2 hl2 => k ls2 H locs (z_as_set (k := 0) (v := .int (zI x)) ho hl2) hP hD hS)
theorem h_aload1 (Y : z_Y p s m args c cc own nL D κ A) {o0 : Option Value} {x : Nat} (hd : decode cc pc = .ok (.aload_n 1, 1)) (k : z_H p l e R s m args below meth c nL D A kc ks Q ws (o0 :: some (.ref x) :: lv) (pc + 1) (.ref x :: st)) : z_H p l e R s m args below meth c nL D A kc ks Q ws (o0 :: some (.ref x) :: lv) pc st :=
  fun ls H locs hl hP hD hS => lv_aload_n Y.1.1 Y.1.2.1 hd rfl (z_as_at hl (k := 1) rfl) (k ls H locs hl hP hD hS)
theorem h_iload1 (Y : z_Y p s m args c cc own nL D κ A) {o0 : Option Value} {x : Int} (hd : decode cc pc = .ok (.iload_n 1, 1)) (k : z_H p l e R s m args below meth c nL D A kc ks Q ws (o0 :: some (.int (zI x)) :: lv) (pc + 1) (.int (zI x) :: st)) : z_H p l e R s m args below meth c nL D A kc ks Q ws (o0 :: some (.int (zI x)) :: lv) pc st :=
  fun ls H locs hl hP hD hS => lv_iload_n Y.1.1 Y.1.2.1 hd rfl (z_as_at hl (k := 1) rfl) (k ls H locs hl hP hD hS)
theorem h_astore1 (Y : z_Y p s m args c cc own nL D κ A) {o0 : Option Value} {o : Option Value} {x : Nat} (hd : decode cc pc = .ok (.astore_n 1, 1)) (hn : 1 < nL) (ho : z_ok (o0 :: o :: lv) 1 = true) (k : z_H p l e R s m args below meth c nL D A kc ks Q ws (o0 :: some (.ref x) :: lv) (pc + 1) st) : z_H p l e R s m args below meth c nL D A kc ks Q ws (o0 :: o :: lv) pc (.ref x :: st) :=
  fun ls H locs hl hP hD hS => lv_astore_n Y.1.1 Y.1.2.1 hd rfl hl hn rfl (fun ls2 hl2 => k ls2 H locs (z_as_set (k := 1) (v := .ref x) ho hl2) hP hD hS)
theorem h_istore1 (Y : z_Y p s m args c cc own nL D κ A) {o0 : Option Value} {o : Option Value} {x : Int} (hd : decode cc pc = .ok (.istore_n 1, 1)) (hn : 1 < nL) (ho : z_ok (o0 :: o :: lv) 1 = true) (k : z_H p l e R s m args below meth c nL D A kc ks Q ws (o0 :: some (.int (zI x)) :: lv) (pc + 1) st) : z_H p l e R s m args below meth c nL D A kc ks Q ws (o0 :: o :: lv) pc (.int (zI x) :: st) :=
  fun ls H locs hl hP hD hS => lv_istore_n Y.1.1 Y.1.2.1 hd rfl hl hn rfl (fun ls2 hl2 => k ls2 H locs (z_as_set (k := 1) (v := .int (zI x)) ho hl2) hP hD hS)
theorem h_aload2 (Y : z_Y p s m args c cc own nL D κ A) {o0 o1 : Option Value} {x : Nat} (hd : decode cc pc = .ok (.aload_n 2, 1)) (k : z_H p l e R s m args below meth c nL D A kc ks Q ws (o0 :: o1 :: some (.ref x) :: lv) (pc + 1) (.ref x :: st)) : z_H p l e R s m args below meth c nL D A kc ks Q ws (o0 :: o1 :: some (.ref x) :: lv) pc st :=
  fun ls H locs hl hP hD hS => lv_aload_n Y.1.1 Y.1.2.1 hd rfl (z_as_at hl (k := 2) rfl) (k ls H locs hl hP hD hS)
theorem h_iload2 (Y : z_Y p s m args c cc own nL D κ A) {o0 o1 : Option Value} {x : Int} (hd : decode cc pc = .ok (.iload_n 2, 1)) (k : z_H p l e R s m args below meth c nL D A kc ks Q ws (o0 :: o1 :: some (.int (zI x)) :: lv) (pc + 1) (.int (zI x) :: st)) : z_H p l e R s m args below meth c nL D A kc ks Q ws (o0 :: o1 :: some (.int (zI x)) :: lv) pc st :=
  fun ls H locs hl hP hD hS => lv_iload_n Y.1.1 Y.1.2.1 hd rfl (z_as_at hl (k := 2) rfl) (k ls H locs hl hP hD hS)
theorem h_astore2 (Y : z_Y p s m args c cc own nL D κ A) {o0 o1 : Option Value} {o : Option Value} {x : Nat} (hd : decode cc pc = .ok (.astore_n 2, 1)) (hn : 2 < nL) (ho : z_ok (o0 :: o1 :: o :: lv) 2 = true) (k : z_H p l e R s m args below meth c nL D A kc ks Q ws (o0 :: o1 :: some (.ref x) :: lv) (pc + 1) st) : z_H p l e R s m args below meth c nL D A kc ks Q ws (o0 :: o1 :: o :: lv) pc (.ref x :: st) :=
  fun ls H locs hl hP hD hS => lv_astore_n Y.1.1 Y.1.2.1 hd rfl hl hn rfl (fun ls2 hl2 => k ls2 H locs (z_as_set (k := 2) (v := .ref x) ho hl2) hP hD hS)
theorem h_istore2 (Y : z_Y p s m args c cc own nL D κ A) {o0 o1 : Option Value} {o : Option Value} {x : Int} (hd : decode cc pc = .ok (.istore_n 2, 1)) (hn : 2 < nL) (ho : z_ok (o0 :: o1 :: o :: lv) 2 = true) (k : z_H p l e R s m args below meth c nL D A kc ks Q ws (o0 :: o1 :: some (.int (zI x)) :: lv) (pc + 1) st) : z_H p l e R s m args below meth c nL D A kc ks Q ws (o0 :: o1 :: o :: lv) pc (.int (zI x) :: st) :=
  fun ls H locs hl hP hD hS => lv_istore_n Y.1.1 Y.1.2.1 hd rfl hl hn rfl (fun ls2 hl2 => k ls2 H locs (z_as_set (k := 2) (v := .int (zI x)) ho hl2) hP hD hS)
theorem h_iinc1 (Y : z_Y p s m args c cc own nL D κ A) {o0 : Option Value} {x n y : Int} (hd : decode cc pc = .ok (.iinc 1 n, 3)) (hy : x + n = y) (hn : 1 < nL) (ho : z_ok (o0 :: some (.int (zI x)) :: lv) 1 = true) (k : z_H p l e R s m args below meth c nL D A kc ks Q ws (o0 :: some (.int (zI y)) :: lv) (pc + 3) st) : z_H p l e R s m args below meth c nL D A kc ks Q ws (o0 :: some (.int (zI x)) :: lv) pc st := by
  subst hy
  intro ls H locs hl hP hD hS
  obtain ⟨q, hq⟩ := List.getElem?_of_mem ((z_as_mem (o0 :: some (.int (zI x)) :: lv) 0 (1, .int (zI x))).mpr ⟨Nat.zero_le _, rfl⟩)
  exact lv_iinc Y.1.1 Y.1.2.1 hd hl (k := q) hq (zI_add x n).symm hn rfl (fun ls2 hl2 => k ls2 H locs (z_as_set (k := 1) (v := .int (zI (x + n))) ho hl2) hP hD hS)
theorem h_goto (Y : z_Y p s m args c cc own nL D κ A) {off : Int} {tgt : Nat} (hd : decode cc pc = .ok (.goto off, 3)) (ht : (pc : Int) + off = (tgt : Int)) (k : z_H p l e R s m args below meth c nL D A kc ks Q ws lv tgt st) : z_H p l e R s m args below meth c nL D A kc ks Q ws lv pc st :=
  fun ls H locs hl hP hD hS => lv_goto Y.1.1 Y.1.2.1 hd ht (k ls H locs hl hP hD hS)
theorem h_ge_n (Y : z_Y p s m args c cc own nL D κ A) {x y : Int} {off : Int} {tgt : Nat} (hd : decode cc pc = .ok (.if_icmp .ge off, 3)) (ht : (pc : Int) + off = (tgt : Int)) (hr : z_in x ∧ z_in y) (hlt : x < y) (k : z_H p l e R s m args below meth c nL D A kc ks Q ws lv (pc + 3) st) : z_H p l e R s m args below meth c nL D A kc ks Q ws lv pc (.int (zI y) :: .int (zI x) :: st) :=
  fun ls H locs hl hP hD hS => lv_icmp_ge Y.1.1 Y.1.2.1 hd ht (fun h => absurd ((zI_le hr.2 hr.1).mp h) (by omega)) (fun _ => k ls H locs hl hP hD hS)
theorem h_ge_t (Y : z_Y p s m args c cc own nL D κ A) {x y : Int} {off : Int} {tgt : Nat} (hd : decode cc pc = .ok (.if_icmp .ge off, 3)) (ht : (pc : Int) + off = (tgt : Int)) (hr : z_in x ∧ z_in y) (hle : y ≤ x) (k : z_H p l e R s m args below meth c nL D A kc ks Q ws lv tgt st) : z_H p l e R s m args below meth c nL D A kc ks Q ws lv pc (.int (zI y) :: .int (zI x) :: st) :=
  fun ls H locs hl hP hD hS => lv_icmp_ge Y.1.1 Y.1.2.1 hd ht (fun _ => k ls H locs hl hP hD hS) (fun h => absurd ((zI_le hr.2 hr.1).mpr hle) h)
theorem h_dup (Y : z_Y p s m args c cc own nL D κ A) {v : Value} (hd : decode cc pc = .ok (.dup, 1)) (hv : v.category = 1) (k : z_H p l e R s m args below meth c nL D A kc ks Q ws lv (pc + 1) (v :: v :: st)) : z_H p l e R s m args below meth c nL D A kc ks Q ws lv pc (v :: st) :=
  fun ls H locs hl hP hD hS => lv_dup Y.1.1 Y.1.2.1 hd hv (k ls H locs hl hP hD hS)
theorem ra_int {U : State} {c1 c2 : ClassId} (h1 : va_RA U c1 .int) (h2 : va_RA U c2 .int) : c1 = c2 := by
  have a1 : U.vm.findClass ("[" ++ FieldType.int.toString) = some c1 := h1
  have a2 : U.vm.findClass ("[" ++ FieldType.int.toString) = some c2 := h2
  exact Option.some.inj (a1.symm.trans a2)
theorem ra_long {U : State} {c1 c2 : ClassId} (h1 : va_RA U c1 .long) (h2 : va_RA U c2 .long) : c1 = c2 := by
  have a1 : U.vm.findClass ("[" ++ FieldType.long.toString) = some c1 := h1
  have a2 : U.vm.findClass ("[" ++ FieldType.long.toString) = some c2 := h2
  exact Option.some.inj (a1.symm.trans a2)
theorem ra_boolean {U : State} {c1 c2 : ClassId} (h1 : va_RA U c1 .boolean) (h2 : va_RA U c2 .boolean) : c1 = c2 := by
  have a1 : U.vm.findClass ("[" ++ FieldType.boolean.toString) = some c1 := h1
  have a2 : U.vm.findClass ("[" ++ FieldType.boolean.toString) = some c2 := h2
  exact Option.some.inj (a1.symm.trans a2)
theorem ra_arr {U : State} {c1 c2 : ClassId} {t : FieldType} (h1 : va_RA U c1 (.array t)) (h2 : va_RA U c2 (.array t)) : c1 = c2 := by
  have a1 : U.vm.findClass ("[" ++ (FieldType.array t).toString) = some c1 := h1
  have a2 : U.vm.findClass ("[" ++ (FieldType.array t).toString) = some c2 := h2
  exact Option.some.inj (a1.symm.trans a2)
theorem ra_obj {U : State} {c1 c2 : ClassId} {C : String} (h1 : va_RA U c1 (.object C)) (h2 : va_RA U c2 (.object C)) : c1 = c2 := by
  obtain ⟨_, _, _, _, _, a1⟩ := h1
  obtain ⟨_, _, _, _, _, a2⟩ := h2
  exact Option.some.inj (a1.symm.trans a2)
theorem h_newI (Y : z_Y p s m args c cc own nL D κ A) {x0 : Nat × va_E} {wr : va_W} (n : Nat) (hd : decode cc pc = .ok (.newarray .int, 2)) (hw : Cond.arrayClass .int ∈ z_TT) (hn : n < 1000000) (hc : kc + 1 ≤ R.cells) (hs : ks + n ≤ R.slots) (k : ∀ q : Nat, z_H p l e R s m args below meth c nL D A (kc + 1) (ks + n) Q (x0 :: (wr ++ [(q, .inl (κ 0, n, .inl (zaI (fun _ => 0))))])) lv (pc + 2) (.ref q :: st)) : z_H p l e R s m args below meth c nL D A kc ks Q (x0 :: wr) lv pc (.int (zI (n : Int)) :: st) := by
  intro ls H locs hl hP hD hS
  refine va_newa (atype := .int) (a0 := (n, .inl (zaI (fun _ => 0)))) (ty := .int) Y.1.1 Y.1.2.1 (Y.1.2.2.2.2 _ hw) rfl Y.2.1.1.1 hP hD hS Y.2.2 (fun _ => rfl) (by rw [zI_nat]; exact nI_pos (by omega)) (zI_clN (by omega)) (by show n * _ ≤ _; simp [componentBytes]; omega) hc hs hd (fun q cA H1 hK1 hP1 hD1 hS1 => ?_)
  have e9 : cA = κ 0 := ra_int (hK1.2 5 (cA, .int) rfl).2 (Y.2.1.1.1.2 0 (κ 0, .int) rfl).2
  subst e9
  exact k q ls H1 locs hl hP1 hD1 hS1
theorem h_newZ (Y : z_Y p s m args c cc own nL D κ A) {x0 : Nat × va_E} {wr : va_W} (n : Nat) (hd : decode cc pc = .ok (.newarray .boolean, 2)) (hw : Cond.arrayClass .boolean ∈ z_TT) (hn : n < 1000000) (hc : kc + 1 ≤ R.cells) (hs : ks + n ≤ R.slots) (k : ∀ q : Nat, z_H p l e R s m args below meth c nL D A (kc + 1) (ks + n) Q (x0 :: (wr ++ [(q, .inl (κ 2, n, .inl (zaI (fun _ => 0))))])) lv (pc + 2) (.ref q :: st)) : z_H p l e R s m args below meth c nL D A kc ks Q (x0 :: wr) lv pc (.int (zI (n : Int)) :: st) := by
  intro ls H locs hl hP hD hS
  refine va_newa (atype := .boolean) (a0 := (n, .inl (zaI (fun _ => 0)))) (ty := .boolean) Y.1.1 Y.1.2.1 (Y.1.2.2.2.2 _ hw) rfl Y.2.1.1.1 hP hD hS Y.2.2 (fun _ => rfl) (by rw [zI_nat]; exact nI_pos (by omega)) (zI_clN (by omega)) (by show n * _ ≤ _; simp [componentBytes]; omega) hc hs hd (fun q cA H1 hK1 hP1 hD1 hS1 => ?_)
  have e9 : cA = κ 2 := ra_boolean (hK1.2 5 (cA, .boolean) rfl).2 (Y.2.1.1.1.2 2 (κ 2, .boolean) rfl).2
  subst e9
  exact k q ls H1 locs hl hP1 hD1 hS1
theorem h_newL (Y : z_Y p s m args c cc own nL D κ A) {x0 : Nat × va_E} {wr : va_W} (n : Nat) (hd : decode cc pc = .ok (.newarray .long, 2)) (hw : Cond.arrayClass .long ∈ z_TT) (hn : n < 1000000) (hc : kc + 1 ≤ R.cells) (hs : ks + n ≤ R.slots) (k : ∀ q : Nat, z_H p l e R s m args below meth c nL D A (kc + 1) (ks + n) Q (x0 :: (wr ++ [(q, .inl (κ 1, n, .inr (.inl (zaL (fun _ => 0)))))])) lv (pc + 2) (.ref q :: st)) : z_H p l e R s m args below meth c nL D A kc ks Q (x0 :: wr) lv pc (.int (zI (n : Int)) :: st) := by
  intro ls H locs hl hP hD hS
  refine va_newa (atype := .long) (a0 := (n, .inr (.inl (zaL (fun _ => 0))))) (ty := .long) Y.1.1 Y.1.2.1 (Y.1.2.2.2.2 _ hw) rfl Y.2.1.1.1 hP hD hS Y.2.2 (fun _ => rfl) (by rw [zI_nat]; exact nI_pos (by omega)) (zI_clN (by omega)) (by show n * _ ≤ _; simp [componentBytes]; omega) hc hs hd (fun q cA H1 hK1 hP1 hD1 hS1 => ?_)
  have e9 : cA = κ 1 := ra_long (hK1.2 5 (cA, .long) rfl).2 (Y.2.1.1.1.2 1 (κ 1, .long) rfl).2
  subst e9
  exact k q ls H1 locs hl hP1 hD1 hS1
theorem h_newP (Y : z_Y p s m args c cc own nL D κ A) {x0 : Nat × va_E} {wr : va_W} {ix : Nat} (n : Nat) (hd : decode cc pc = .ok (.anewarray ix, 3)) (hw : Cond.classLink own ix "DotsOnGrass$Picture" ∈ z_TT) (hn : n < 1000000) (hc : kc + 1 ≤ R.cells) (hs : ks + n ≤ R.slots) (k : ∀ q : Nat, z_H p l e R s m args below meth c nL D A (kc + 1) (ks + n) Q (x0 :: (wr ++ [(q, .inl (κ 3, n, .inr (.inr (.inr (.inr (fun _ => none))))))])) lv (pc + 3) (.ref q :: st)) : z_H p l e R s m args below meth c nL D A kc ks Q (x0 :: wr) lv pc (.int (zI (n : Int)) :: st) := by
  intro ls H locs hl hP hD hS
  refine va_newq (C := "DotsOnGrass$Picture") (N' := n) Y.1.1 Y.1.2.1 Y.1.2.2.2.1 (Y.1.2.2.2.2 _ hw) Y.2.1.2.2.1 Y.2.1.1.1 hP hD hS Y.2.2 (by rw [zI_nat]; exact nI_pos (by omega)) (zI_clN (by omega)) (by omega) hc hs hd (fun q cA H1 hK1 hP1 hD1 hS1 => ?_)
  have e9 : cA = κ 3 := ra_obj (hK1.2 5 (cA, .object "DotsOnGrass$Picture") rfl).2 (Y.2.1.1.1.2 3 (κ 3, .object "DotsOnGrass$Picture") rfl).2
  subst e9
  exact k q ls H1 locs hl hP1 hD1 hS1
theorem h_astP (Y : z_Y p s m args c cc own nL D κ A) {x0 x1 x2 : Nat × va_E} {wr : va_W} {qa n v : Nat} {f : Nat → Option Nat} {vs : List Value} (i : Nat) (qk : Nat) (hd : decode cc pc = .ok (.aastore, 1)) (hv : (x0 :: x1 :: x2 :: (qa, (.inl (κ 3, n, .inr (.inr (.inr (.inr f)))) : va_E)) :: wr)[qk]? = some (v, .inr (0, vs))) (hi : i < n) (hn : n < 1000000) (k : z_H p l e R s m args below meth c nL D A kc ks Q (x0 :: x1 :: x2 :: (qa, .inl (κ 3, n, .inr (.inr (.inr (.inr (va_up f i (some v))))))) :: wr) lv (pc + 1) st) : z_H p l e R s m args below meth c nL D A kc ks Q (x0 :: x1 :: x2 :: (qa, .inl (κ 3, n, .inr (.inr (.inr (.inr f))))) :: wr) lv pc (.ref v :: .int (zI (i : Int)) :: .ref qa :: st) := by
  intro ls H locs hl hP hD hS
  refine va_astq (r := (RX0, TX0, 5)) Y.1.1 Y.1.2.1 Y.2.1.1.1 hP hD hS 3 3 qk 0 rfl rfl hv rfl (zI_vin (by omega) (by omega) (by omega)) hd (fun H1 locs1 hP1 hD1 hS1 => ?_)
  rw [zI_clN (by omega)] at hP1 hD1
  exact k ls H1 locs1 hl hP1 hD1 hS1
theorem h_astI (Y : z_Y p s m args c cc own nL D κ A) {x0 : Nat × va_E} {qa n : Nat} {f : Int → Int} {v : Int} (i : Int) (hd : decode cc pc = .ok (.iastore, 1)) (hi : 0 ≤ i ∧ i < (n : Int)) (hn : n < 1000000) (k : z_H p l e R s m args below meth c nL D A kc ks Q [x0, (qa, z_eI κ n (z_upf f i v))] lv (pc + 1) st) : z_H p l e R s m args below meth c nL D A kc ks Q [x0, (qa, z_eI κ n f)] lv pc (.int (zI v) :: .int (zI i) :: .ref qa :: st) := by
  intro ls H locs hl hP hD hS
  refine va_iast Y.1.1 Y.1.2.1 Y.2.1.1.1 hP hD hS 1 0 rfl rfl (zI_vin hi.1 hi.2 (by omega)) hd (fun H1 locs1 hP1 hD1 hS1 => ?_)
  rw [zaI_up hi.1 hi.2 (by omega)] at hP1 hD1
  exact k ls H1 locs1 hl hP1 hD1 hS1
theorem h_put (Y : z_Y p s m args c cc own nL D κ A) {q ci N ix : Nat} {C : String} {T : u_T} {fs : List Value} {wr : va_W} {v : Value} (j : Nat) (hd : decode cc pc = .ok (.putfield ix, 3)) (hin : ∀ w ∈ u_ws C T N, w ∈ z_TT) (hlk : Cond.fieldLink own ix (T j).1 (T j).2.1 (T j).2.2.1 ∈ z_TT) (ty0 : Nat → FieldType) (hty : ∀ k, k < N → parseFieldDescriptor (T k).2.2.1 = some (ty0 k)) (hnm : ∀ a, a < N → ∀ b, b < N → a ≠ b → (T a).2.1 ≠ (T b).2.1) (hc : vwCl[ci]? = some (C, T, N)) (hj : j < N) (hfin : (T j).2.2.2 = false) {ty : FieldType} (hdt : parseFieldDescriptor (T j).2.2.1 = some ty) (hn : narrow ty v = v) (hfit : fits ty v = true) (hlen : j < fs.length) (k : z_H p l e R s m args below meth c nL D A kc ks Q ((q, .inr (ci, fs.set j v)) :: wr) lv (pc + 3) st) : z_H p l e R s m args below meth c nL D A kc ks Q ((q, .inr (ci, fs)) :: wr) lv pc (v :: .ref q :: st) :=
  fun ls H locs hl hP hD hS => va_put (D := D) (ci := ci) (C := C) (T := T) (N := N) (ref := (T j).1) Y.1.1 Y.1.2.1 Y.1.2.2.2.2 hin ty0 hty hnm Y.1.2.2.2.1 Y.2.1.1.1 hP hD hS 0 rfl hc j hj (Y.1.2.2.2.2 _ hlk) (fun _ h => h) hfin hdt hn hfit hlen hd (fun H1 locs1 hP1 hD1 hS1 => k ls H1 locs1 hl hP1 hD1 hS1)
theorem h_putF (Y : z_Y p s m args c cc own nL D κ A) {q ci N ix : Nat} {C : String} {T : u_T} {fs : List Value} {wr : va_W} {v : Value} (j : Nat) (hd : decode cc pc = .ok (.putfield ix, 3)) (hin : ∀ w ∈ u_ws C T N, w ∈ z_TT) (hlk : Cond.fieldLink own ix (T j).1 (T j).2.1 (T j).2.2.1 ∈ z_TT) (ty0 : Nat → FieldType) (hty : ∀ k, k < N → parseFieldDescriptor (T k).2.2.1 = some (ty0 k)) (hnm : ∀ a, a < N → ∀ b, b < N → a ≠ b → (T a).2.1 ≠ (T b).2.1) (hc : vwCl[ci]? = some (C, T, N)) (hj : j < N) (hfin : (T j).2.2.2 = true) (hin2 : meth.name = "<init>") (hdecl : (T j).1 = own) {ty : FieldType} (hdt : parseFieldDescriptor (T j).2.2.1 = some ty) (hn : narrow ty v = v) (hfit : fits ty v = true) (hlen : j < fs.length) (k : z_H p l e R s m args below meth c nL D A kc ks Q ((q, .inr (ci, fs.set j v)) :: wr) lv (pc + 3) st) : z_H p l e R s m args below meth c nL D A kc ks Q ((q, .inr (ci, fs)) :: wr) lv pc (v :: .ref q :: st) :=
  fun ls H locs hl hP hD hS => va_putF (D := D) (ci := ci) (C := C) (T := T) (N := N) (ref := (T j).1) Y.1.1 Y.1.2.1 Y.1.2.2.2.2 hin ty0 hty hnm Y.1.2.2.2.1 Y.2.1.1.1 hP hD hS 0 rfl hc j hj (Y.1.2.2.2.2 _ hlk) (fun _ h => h) hfin hin2 hdecl hdt hn hfit hlen hd (fun H1 locs1 hP1 hD1 hS1 => k ls H1 locs1 hl hP1 hD1 hS1)
theorem h_get (Y : z_Y p s m args c cc own nL D κ A) {q ci N ix : Nat} {C : String} {T : u_T} {fs : List Value} {wr : va_W} {v : Value} (j : Nat) (hd : decode cc pc = .ok (.getfield ix, 3)) (hin : ∀ w ∈ u_ws C T N, w ∈ z_TT) (hlk : Cond.fieldLink own ix (T j).1 (T j).2.1 (T j).2.2.1 ∈ z_TT) (hc : vwCl[ci]? = some (C, T, N)) (hj : j < N) (hv : fs[j]? = some v) (k : z_H p l e R s m args below meth c nL D A kc ks Q ((q, .inr (ci, fs)) :: wr) lv (pc + 3) (v :: st)) : z_H p l e R s m args below meth c nL D A kc ks Q ((q, .inr (ci, fs)) :: wr) lv pc (.ref q :: st) :=
  fun ls H locs hl hP hD hS => va_get (D := D) (ci := ci) (v := v) (C := C) (T := T) (N := N) (ref := (T j).1) Y.1.1 Y.1.2.1 Y.1.2.2.2.2 hin Y.1.2.2.2.1 Y.2.1.1.1 hP 0 rfl hc j hj (Y.1.2.2.2.2 _ hlk) (fun _ h => h) hv hd (k ls H locs hl hP hD hS)
theorem h_new (Y : z_Y p s m args c cc own nL D κ A) {ci N ix : Nat} {C : String} {T : u_T} (fs : List Value) (hd : decode cc pc = .ok (.new ix, 3)) (hin : ∀ w ∈ u_ws C T N, w ∈ z_TT) (ty0 : Nat → FieldType) (hty : ∀ k, k < N → parseFieldDescriptor (T k).2.2.1 = some (ty0 k)) (h1 : Cond.classLink own ix C ∈ z_TT) (h2 : Cond.instantiable C N ∈ z_TT) (h3 : Cond.initialized C ∈ z_TT) (hc : vwCl[ci]? = some (C, T, N)) (hfs : ∀ j, j < N → defaultValue (ty0 j) = vp_V fs j) (hcc : kc + 1 ≤ R.cells) (hss : ks + N ≤ R.slots) (k : ∀ q : Nat, z_H p l e R s m args below meth c nL D A (kc + 1) (ks + N) Q (ws ++ [(q, .inr (ci, fs))]) lv (pc + 3) (.ref q :: st)) : z_H p l e R s m args below meth c nL D A kc ks Q ws lv pc st :=
  fun ls H locs hl hP hD hS => va_new (ci := ci) (C := C) (T := T) (N := N) Y.1.1 Y.1.2.1 Y.1.2.2.2.2 hin ty0 hty Y.1.2.2.2.1 (Y.1.2.2.2.2 _ h1) (Y.1.2.2.2.2 _ h2) (Y.1.2.2.2.2 _ h3) Y.2.1.1.1 hP hD hS Y.2.2 hc hfs hcc hss hd (fun q H1 hP1 hD1 hS1 => k q ls H1 locs hl hP1 hD1 hS1)
theorem h_obj (Y : z_Y p s m args c cc own nL D κ A) {ix q : Nat} (hd : decode cc pc = .ok (.invokespecial ix, 3)) (h1 : Cond.methodLink own ix objectInit ∈ z_TT) (h2 : Cond.instanceMethod objectInit ∈ z_TT) (h3 : Cond.code objectInit ⟨#[0xb1]⟩ 1 none ∈ z_TT) (hR : 1 ≤ R.frames ∧ (st.map fun v => v.category).sum + 12 ≤ R.locals) (k : z_H p l e R s m args below meth c nL D A kc ks Q ws lv (pc + 3) st) : z_H p l e R s m args below meth c nL D A kc ks Q ws lv pc (.ref q :: st) :=
  fun ls H locs hl hP hD hS => W.objInit Y.1.1 Y.1.2.1 Y.1.2.2.2.1 (Y.1.2.2.2.2 _ h1) (Y.1.2.2.2.2 _ h2) (Y.1.2.2.2.2 _ h3) rfl (by rw [Y.1.2.2.1]; exact hl.1) rfl hd hR.1 (by show 2 * 0 + _ + 12 ≤ _; omega) (W.eq (g2 := F0 m (pc + 3) ls st) rfl (k ls H locs hl hP hD hS))
/-- a constructor: from the world w0, its object alone, to a world w with Po -/
def z_C (l : Launch) (D : va_G) (κ : Nat → ClassId) (y : MethodName) (bytes : ByteArray) (maxL d mc ms : Nat) (av : List Value) (w0 : va_W) (Po : va_W → Prop) : Prop := ∀ sz : Nat, Met l y (.code y bytes maxL none :: z_TT) { frames := d, cells := mc, slots := ms, locals := 64 * d } (va_Pc av (fun U => U.heap.size = sz ∧ va_P D vwCl w0 U.heap ∧ z_KK D κ U ∧ va_D (fun _ => True) w0)) (va_Qv (fun w : va_W => Po w) (fun w t => va_P D vwCl w t.heap ∧ va_D (va_A w0 sz) w) (va_A w0 sz)) mc ms (va_A w0 sz)
theorem z_C_of {y : MethodName} {d mc ms maxL : Nat} {cc : ByteArray} {own : String} {av : List Value} {w0 : va_W} {Po : va_W → Prop} {lv0 : List (Option Value)} (hy : plainName y.cls = true) (ho : y.cls = own) (hyn : y.name = "<init>") (hlen : (lg_sl av).length ≤ maxL) (hl0 : lv_args 0 av = z_as 0 lv0)
    (body : ∀ (p : Program) (e : Env) (s : State) (m : MethodId) (below : List Frame) (meth : Method) (c : Code) (A : Nat → Prop), z_Y p s m av.toArray c cc own maxL D κ A → meth.name = "<init>" → z_M meth none → z_H p l e { frames := d, cells := mc, slots := ms, locals := 64 * d } s m av.toArray below meth c maxL D A 0 0 (MQ below (va_Qv (fun w : va_W => Po w) (fun w t => va_P D vwCl w t.heap ∧ va_D A w) A) av.toArray s mc ms A) w0 lv0 0 []) : z_C l D κ y cc maxL d mc ms av w0 Po := by
  intro sz
  refine Met.ofW (cc := cc) (maxL := maxL) (ret := none) hy rfl ?_
  intro p e s m args below meth c s₁ B hml hv
  obtain ⟨rfl, hsz, hP, hK, hD0⟩ := hv
  subst hsz
  have hown : s.vm.findClass own = some m.cls := by rw [← ho]; exact findClass_of_methodNamed B.named
  have hin : meth.name = "<init>" := (name_of_methodNamed B.named B.method).1.trans hyn
  have hl := lv_entry av (n := maxL) hlen
  rw [lg_entry_eq]
  rw [hl0] at hl
  exact body p e s m below meth c (va_A w0 s.heap.size) ⟨⟨B.exec, B.bytes, hml, hown, fun w hw => atoms_spec (ws := Cond.code y cc maxL none :: z_TT) B.pre w (List.mem_cons_of_mem _ hw)⟩, hK, fun q h => Or.inr h⟩ hin ⟨B.returns, B.notSynchronized⟩ _ _ _ hl hP hD0.self va_S.rf
theorem h_vret (Y : z_Y p s m args c cc own nL D κ A) (M : z_M meth none) {mc ms : Nat} {Po : va_W → Prop} (hd : decode cc pc = .ok (.return_, 1)) (hk : kc ≤ mc) (hs : ks ≤ ms) (hz : Po ws) : z_H p l e R s m args below meth c nL D A kc ks (MQ below (va_Qv (fun w : va_W => Po w) (fun w t => va_P D vwCl w t.heap ∧ va_D A w) A) args s mc ms A) ws lv pc [] :=
  fun ls H locs hl hP hD hS => W.widen (k := mc) (n := ms) hk hs (W.vret Y.1.1 Y.1.2.1 M.1 (fun t ht hW => ⟨⟨ws, rfl, hz, by rw [ht]; exact hP, hD⟩, hS.F ht⟩) hS.2.2 hd M.2)
theorem va_nd_range : ∀ n : Nat, va_nd (List.range n) = true := by
  intro n
  have h : ∀ l : List Nat, l.Nodup → va_nd l = true := by
    intro l
    induction l with
    | nil => intro _; rfl
    | cons a l ih =>
      intro h
      rw [List.nodup_cons] at h
      simp [va_nd, ih h.2, h.1]
  exact h _ List.nodup_range
theorem z_cut {wr : va_W} {x : Nat × va_E} : [wr.length].map (fun i => (wr ++ [x])[i]?) = [x].map some := by simp
theorem z_rest {wr : va_W} {x : Nat × va_E} : (List.range wr.length).map (fun i => (wr ++ [x])[i]?) = wr.map some := by
  apply List.ext_getElem?
  intro i
  rw [List.getElem?_map, List.getElem?_map]
  by_cases h : i < wr.length
  · rw [List.getElem?_range h]
    simp [List.getElem?_append_left h, h]
  · rw [List.getElem?_eq_none (by simp; omega), List.getElem?_eq_none (by omega)]
    rfl
theorem z_one {wr : va_W} {x : Nat × va_E} {H : Heap} (hP : va_P D vwCl (wr ++ [x]) H) : va_P D vwCl [x] H := fun k q hq => hP (wr.length + k) q (by rw [List.getElem?_append_right (by omega), show wr.length + k - wr.length = k by omega]; exact hq)
theorem z_oneD {x : Nat × va_E} : va_D (fun _ => True) [x] := ⟨fun i j p q hi hj _ => by
  have h1 : i < 1 := (List.getElem?_eq_some_iff.mp hi).1
  have h2 : j < 1 := (List.getElem?_eq_some_iff.mp hj).1
  omega, fun _ _ _ => trivial⟩
theorem h_init (Y : z_Y p s m args c cc own nL D κ A) {y : MethodName} {d mc ms maxL ix n q : Nat} {bytes : ByteArray} {As rest : List Value} {wr : va_W} {x : va_E} {Po : va_W → Prop} (hM : z_C l D κ y bytes maxL d mc ms (.ref q :: As) [(q, x)] Po) (hd : decode cc pc = .ok (.invokespecial ix, 3)) (h5 : Cond.code y bytes maxL none ∈ z_TT) (h1 : Cond.methodLink own ix y ∈ z_TT) (h2 : Cond.instanceMethod y ∈ z_TT) (h4 : Cond.initialized y.cls ∈ z_TT) (hnm : y.name = "<init>") (hst : st = As.reverse ++ .ref q :: rest) (hW : (rest.map fun v => v.category).sum ≤ 8) (hR : d + 1 ≤ R.frames ∧ 8 + (maxL + 11) + 64 * d ≤ R.locals) (hnd : y.cls ≠ "java/lang/invoke/MethodHandle" ∧ y.cls ≠ "java/lang/invoke/VarHandle" ∧ (parseMethodDescriptor y.desc).map (fun d => d.parameters.length) = some n) (hn : As.length = n) (hcs : kc + mc ≤ R.cells ∧ ks + ms ≤ R.slots) (k : ∀ w : va_W, Po w → z_H p l e R s m args below meth c nL D A (kc + mc) (ks + ms) Q (wr ++ w) lv (pc + 3) rest) : z_H p l e R s m args below meth c nL D A kc ks Q (wr ++ [(q, x)]) lv pc st := by
  subst hst
  intro ls H locs hl hP hD hS
  have hPc := z_one hP
  have hFc := va_free (wc := [(q, x)]) hD hS Y.2.2 [wr.length] z_cut
  refine va_callv (va_runI (As := As) (rest := rest) Y.1 (hM H.size) (cwI n Y.1.2.2.2.2 (z_goodN h5) rfl rfl rfl (Y.1.2.2.2.2 _ h4) (Y.1.2.2.2.2 _ h1) (Y.1.2.2.2.2 _ h2) hnm hnd hR) ⟨fun a U g mk h => ⟨h.1, h.2.1, h.2.2.1, h.2.2.2.1.same rfl, h.2.2.2.2⟩, fun U hU hW2 => ⟨rfl, by rw [hU], by rw [hU]; exact hPc, Y.2.1.warm hW2, z_oneD⟩⟩ rfl hn hl.1 rfl (lv_room hW) hd hcs) hS (fun q _ h => hFc q h) hFc (fun w t H1 locs1 ht _ hw hB _ hk1 hS1 => ?_)
  obtain ⟨hP1, hD1⟩ := hB
  rw [ht] at hP1
  obtain ⟨hP2, hD2⟩ := va_join (wr := wr) (w1 := w) hP hD [wr.length] (List.range wr.length) z_cut z_rest (va_nd_range _) (fun i hi q => by
    have h1 := List.mem_range.mp hi
    have h2 := List.mem_singleton.mp q
    omega) hk1 hFc hP1 hD1
  exact k w hw ls H1 locs1 hl hP2 hD2 hS1
theorem h_initN (Y : z_Y p s m args c cc own nL D κ A) {y : MethodName} {d mc ms maxL ix n q : Nat} {bytes : ByteArray} {As rest : List Value} {wr : va_W} {x : va_E} {Po : va_W → Prop} (hM : z_C l D κ y bytes maxL d mc ms (.ref q :: As) [(q, x)] Po) (hd : decode cc pc = .ok (.invokespecial ix, 3)) (h5 : Cond.code y bytes maxL none ∈ z_TT) {host : String} (hlk : va_Nw (.methodLinkNest own ix y host) s) (h2 : Cond.instanceMethod y ∈ z_TT) (h4 : Cond.initialized y.cls ∈ z_TT) (hnm : y.name = "<init>") (hst : st = As.reverse ++ .ref q :: rest) (hW : (rest.map fun v => v.category).sum ≤ 8) (hR : d + 1 ≤ R.frames ∧ 8 + (maxL + 11) + 64 * d ≤ R.locals) (hnd : y.cls ≠ "java/lang/invoke/MethodHandle" ∧ y.cls ≠ "java/lang/invoke/VarHandle" ∧ (parseMethodDescriptor y.desc).map (fun d => d.parameters.length) = some n) (hn : As.length = n) (hcs : kc + mc ≤ R.cells ∧ ks + ms ≤ R.slots) (k : ∀ w : va_W, Po w → z_H p l e R s m args below meth c nL D A (kc + mc) (ks + ms) Q (wr ++ w) lv (pc + 3) rest) : z_H p l e R s m args below meth c nL D A kc ks Q (wr ++ [(q, x)]) lv pc st := by
  subst hst
  intro ls H locs hl hP hD hS
  have hPc := z_one hP
  have hFc := va_free (wc := [(q, x)]) hD hS Y.2.2 [wr.length] z_cut
  refine va_callv (va_runIN (As := As) (rest := rest) Y.1 (hM H.size) ⟨va_cnB n Y.1.2.2.2.2 (z_goodN h5) rfl rfl rfl hlk (Y.1.2.2.2.2 _ h4) hnd hR, hnm, Y.1.2.2.2.2 _ h2⟩ ⟨fun a U g mk h => ⟨h.1, h.2.1, h.2.2.1, h.2.2.2.1.same rfl, h.2.2.2.2⟩, fun U hU hW2 => ⟨rfl, by rw [hU], by rw [hU]; exact hPc, Y.2.1.warm hW2, z_oneD⟩⟩ rfl hn hl.1 rfl (lv_room hW) hd hcs) hS (fun q _ h => hFc q h) hFc (fun w t H1 locs1 ht _ hw hB _ hk1 hS1 => ?_)
  obtain ⟨hP1, hD1⟩ := hB
  rw [ht] at hP1
  obtain ⟨hP2, hD2⟩ := va_join (wr := wr) (w1 := w) hP hD [wr.length] (List.range wr.length) z_cut z_rest (va_nd_range _) (fun i hi q => by
    have h1 := List.mem_range.mp hi
    have h2 := List.mem_singleton.mp q
    omega) hk1 hFc hP1 hD1
  exact k w hw ls H1 locs1 hl hP2 hD2 hS1
theorem h_mna (Y : z_Y p s m args c cc own nL D κ A) {x0 : Nat × va_E} {wr : va_W} {ix : Nat} (hd : decode cc pc = .ok (.multianewarray ix 2, 4)) (hw : Cond.classLink own ix "[[I" ∈ z_TT) (hw2 : Cond.arrayClass .int ∈ z_TT) (hc : kc + 6 ≤ R.cells) (hs : ks + 35 ≤ R.slots) (k : ∀ (q : Nat) (r : Nat → Nat), z_H p l e R s m args below meth c nL D A (kc + 6) (ks + 35) Q (x0 :: (wr ++ [(q, .inl (κ 4, 5, .inr (.inr (.inr (.inr (fun i => if i < 5 then some (r i) else none)))))), (r 0, z_eI κ 6 (fun _ => 0)), (r 1, z_eI κ 6 (fun _ => 0)), (r 2, z_eI κ 6 (fun _ => 0)), (r 3, z_eI κ 6 (fun _ => 0)), (r 4, z_eI κ 6 (fun _ => 0))])) lv (pc + 4) (.ref q :: st)) : z_H p l e R s m args below meth c nL D A kc ks Q (x0 :: wr) lv pc (.int (zI 6) :: .int (zI 5) :: st) := by
  intro ls H locs hl hP hD hS T hT Xs
  obtain ⟨cI, c4, k4, hfI, hk4, hd4, hf4⟩ := z_AOA_spec Y.2.1.2.2.2
  have e1 : cI = κ 0 := Option.some.inj (hfI.symm.trans (show s.vm.findClass (FieldType.array .int).toString = some (κ 0) from (Y.2.1.1.1.2 0 (κ 0, .int) rfl).2))
  have e2 : c4 = κ 4 := Option.some.inj (hf4.symm.trans (show s.vm.findClass ("[" ++ (FieldType.array .int).toString) = some (κ 4) from (Y.2.1.1.1.2 4 (κ 4, .array .int) rfl).2))
  subst e1
  subst e2
  obtain ⟨c0, k0, co, fI, hk0, hd0⟩ := Cond.arrayClass_spec (Y.1.2.2.2.2 _ hw2)
  have e3 : c0 = κ 0 := Option.some.inj (fI.symm.trans (show s.vm.findClass ("[" ++ FieldType.int.toString) = some (κ 0) from (Y.2.1.1.1.2 0 (κ 0, .int) rfl).2))
  subst e3
  obtain ⟨vm₁, X', step⟩ := z_multi (ls := ls) (st := st) Xs Y.1.1 Y.1.2.2.2.1 (Y.1.2.2.2.2 _ hw) hf4 hk4 hd4 hk0 hd0 (by rw [Y.1.2.1]; exact hd) hc hs
  generalize hF : z_mS (T.setVm vm₁) (κ 4) (κ 0) 5 = F at X' step
  have hTh : (T.setVm vm₁).heap = H := hT
  obtain ⟨f1, f2, -, -, hold, hrw⟩ := z_mS_facts (T.setVm vm₁) (κ 4) (κ 0) 5
  rw [hF, hTh] at f1 f2 hold hrw
  have hrow : ∀ j : Nat, j < 5 → F.heap[H.size + 1 + j]? = some (vp_cell (κ 0) (6, .inl (zaI (fun _ => 0)))) := fun j hj => hrw j hj
  have hn9 : ∀ (x : Nat × va_E), x ∈ [(H.size, (.inl (κ 4, 5, .inr (.inr (.inr (.inr (fun i => if i < 5 then some (H.size + 1 + i) else none))))) : va_E)), (H.size + 1 + 0, z_eI κ 6 (fun _ => 0)), (H.size + 1 + 1, z_eI κ 6 (fun _ => 0)), (H.size + 1 + 2, z_eI κ 6 (fun _ => 0)), (H.size + 1 + 3, z_eI κ 6 (fun _ => 0)), (H.size + 1 + 4, z_eI κ 6 (fun _ => 0))] → va_at D vwCl x F.heap := by
    intro x hx
    simp only [List.mem_cons, List.not_mem_nil, or_false] at hx
    rcases hx with rfl | rfl | rfl | rfl | rfl | rfl
    · exact f2
    · exact hrow 0 (by decide)
    · exact hrow 1 (by decide)
    · exact hrow 2 (by decide)
    · exact hrow 3 (by decide)
    · exact hrow 4 (by decide)
  have hP0 : va_P D vwCl (x0 :: wr) F.heap := hP.kept (fun k9 x hx => hold x.1 ((hP k9 x hx).lt))
  have hP1 := hP0.app (fun k9 x hx => hn9 x (List.mem_of_getElem? hx))
  have hD1 : va_D A ((x0 :: wr) ++ [(H.size, (.inl (κ 4, 5, .inr (.inr (.inr (.inr (fun i => if i < 5 then some (H.size + 1 + i) else none))))) : va_E)), (H.size + 1 + 0, z_eI κ 6 (fun _ => 0)), (H.size + 1 + 1, z_eI κ 6 (fun _ => 0)), (H.size + 1 + 2, z_eI κ 6 (fun _ => 0)), (H.size + 1 + 3, z_eI κ 6 (fun _ => 0)), (H.size + 1 + 4, z_eI κ 6 (fun _ => 0))]) := by
    have ha : ∀ (k9 : Nat) (x : Nat × va_E), [(H.size, (.inl (κ 4, 5, .inr (.inr (.inr (.inr (fun i => if i < 5 then some (H.size + 1 + i) else none))))) : va_E)), (H.size + 1 + 0, z_eI κ 6 (fun _ => 0)), (H.size + 1 + 1, z_eI κ 6 (fun _ => 0)), (H.size + 1 + 2, z_eI κ 6 (fun _ => 0)), (H.size + 1 + 3, z_eI κ 6 (fun _ => 0)), (H.size + 1 + 4, z_eI κ 6 (fun _ => 0))][k9]? = some x → x.1 = H.size + k9 := fun k9 x hx => by
      have h0 : k9 < 6 := (List.getElem?_eq_some_iff.mp hx).1
      rcases (show k9 = 0 ∨ k9 = 1 ∨ k9 = 2 ∨ k9 = 3 ∨ k9 = 4 ∨ k9 = 5 by omega) with rfl | rfl | rfl | rfl | rfl | rfl <;> cases hx <;> first | rfl | omega
    refine va_D.app hD ⟨fun i j x y hi hj hxy => ?_, fun k9 x hx => ?_⟩ (fun i j x y hx hy hxy => ?_)
    · have := ha _ _ hi
      have := ha _ _ hj
      omega
    · rw [ha _ _ hx]
      exact Y.2.2 _ (by have := hS.1; omega)
    · have h1 := (hP i x hx).lt
      have h2 := ha _ _ hy
      omega
  obtain ⟨t, a1, b1⟩ := k H.size (fun i => H.size + 1 + i) ls F.heap locs hl hP1 hD1 ⟨by rw [f1]; have := hS.1; omega, fun x h1 h2 => (hold x (Nat.lt_of_lt_of_le h1 hS.1)).trans (hS.2.1 x h1 h2), hS.2.2⟩ F rfl X'
  refine ⟨t, step t ?_, b1⟩
  have e9 : T.heap.size = H.size := by rw [hT]
  rw [e9]
  exact a1
end ZH
