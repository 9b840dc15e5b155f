section ZP
variable {p : Program} {l : Launch} {e : Env} {R : Room} {s : State} {m : MethodId} {args : Array Value} {below : List Frame} {meth : Method} {c : Code} {cc : ByteArray} {own : String} {nL : Nat} {D : va_G} {κ : Nat → ClassId} {a : Nat → Nat} {A : Nat → Prop} {kc ks : Nat} {Q : State → Prop}
variable {σ : zSt} {lv : List (Option Value)} {pc : Nat} {st : List Value}
def z_Qp (D : va_G) (κ : Nat → ClassId) (a : Nat → Nat) (A : Nat → Prop) (Po : Int → zSt → Prop) : Array Value → State → Outcome → State → Prop := va_Qi (fun r (u : Int × zSt) => r = zI u.1 ∧ Po u.1 u.2) (fun u t => va_P D vwCl (z_w κ a u.2) t.heap) A
def z_Qq (D : va_G) (κ : Nat → ClassId) (a : Nat → Nat) (A : Nat → Prop) (Po : zSt → Prop) : Array Value → State → Outcome → State → Prop := va_Qv (fun (u : zSt) => Po u) (fun u t => va_P D vwCl (z_w κ a u) t.heap) A
/-- the method y answers some z, the world holds some σ' behind it, and Po of them -/
def z_Tp (l : Launch) (D : va_G) (κ : Nat → ClassId) (a : Nat → Nat) (A : Nat → Prop) (y : MethodName) (bytes : ByteArray) (maxL : Nat) (ret : Option FieldType) (d : Nat) (av : List Value) (σ : zSt) (Po : Int → zSt → Prop) : Prop := Met l y (.code y bytes maxL ret :: z_TT) (z_rm d) (z_Pc D κ a av σ) (z_Qp D κ a A Po) 0 0 A
def z_Tq (l : Launch) (D : va_G) (κ : Nat → ClassId) (a : Nat → Nat) (A : Nat → Prop) (y : MethodName) (bytes : ByteArray) (maxL : Nat) (ret : Option FieldType) (d : Nat) (av : List Value) (σ : zSt) (Po : zSt → Prop) : Prop := Met l y (.code y bytes maxL ret :: z_TT) (z_rm d) (z_Pc D κ a av σ) (z_Qq D κ a A Po) 0 0 A
theorem z_Tp_of {y : MethodName} {d maxL : Nat} {cc : ByteArray} {ret : Option FieldType} {own : String} {av : List Value} {σ : zSt} {Po : Int → zSt → Prop} {lv0 : List (Option Value)} (hA : z_aD a A) (hy : plainName y.cls = true) (ho : y.cls = own) (hlen : (lg_sl av).length ≤ maxL) (hl0 : lv_args 0 av = z_as 0 lv0)
    (body : ∀ (p : Program) (e : Env) (s : State) (m : MethodId) (below : List Frame) (meth : Method) (c : Code), z_X p (z_rm d) s m av.toArray c cc own maxL D κ a A 0 0 → z_M meth ret → z_G p l e (z_rm d) s m av.toArray below meth c maxL D κ a A 0 0 (MQ below (z_Qp D κ a A Po) av.toArray s 0 0 A) σ lv0 0 []) : z_Tp l D κ a A y cc maxL ret d av σ Po := by
  refine Met.ofW (cc := cc) (maxL := maxL) (ret := ret) hy rfl ?_
  intro p e s m args below meth c s₁ B hml hv
  obtain ⟨rfl, hP, hK⟩ := hv
  have hown : s.vm.findClass own = some m.cls := by rw [← ho]; exact findClass_of_methodNamed B.named
  have hl := lv_entry av (n := maxL) hlen
  rw [lg_entry_eq]
  rw [hl0] at hl
  exact body p e s m below meth c ⟨⟨B.exec, B.bytes, hml, hown, fun w hw => atoms_spec (ws := Cond.code y cc maxL ret :: z_TT) B.pre w (List.mem_cons_of_mem _ hw)⟩, hK, hA, Nat.zero_le _, Nat.zero_le _⟩ ⟨B.returns, B.notSynchronized⟩ _ _ _ hl hP va_S.rf
theorem z_Tq_of {y : MethodName} {d maxL : Nat} {cc : ByteArray} {ret : Option FieldType} {own : String} {av : List Value} {σ : zSt} {Po : zSt → Prop} {lv0 : List (Option Value)} (hA : z_aD a A) (hy : plainName y.cls = true) (ho : y.cls = own) (hlen : (lg_sl av).length ≤ maxL) (hl0 : lv_args 0 av = z_as 0 lv0)
    (body : ∀ (p : Program) (e : Env) (s : State) (m : MethodId) (below : List Frame) (meth : Method) (c : Code), z_X p (z_rm d) s m av.toArray c cc own maxL D κ a A 0 0 → z_M meth ret → z_G p l e (z_rm d) s m av.toArray below meth c maxL D κ a A 0 0 (MQ below (z_Qq D κ a A Po) av.toArray s 0 0 A) σ lv0 0 []) : z_Tq l D κ a A y cc maxL ret d av σ Po := by
  refine Met.ofW (cc := cc) (maxL := maxL) (ret := ret) hy rfl ?_
  intro p e s m args below meth c s₁ B hml hv
  obtain ⟨rfl, hP, hK⟩ := hv
  have hown : s.vm.findClass own = some m.cls := by rw [← ho]; exact findClass_of_methodNamed B.named
  have hl := lv_entry av (n := maxL) hlen
  rw [lg_entry_eq]
  rw [hl0] at hl
  exact body p e s m below meth c ⟨⟨B.exec, B.bytes, hml, hown, fun w hw => atoms_spec (ws := Cond.code y cc maxL ret :: z_TT) B.pre w (List.mem_cons_of_mem _ hw)⟩, hK, hA, Nat.zero_le _, Nat.zero_le _⟩ ⟨B.returns, B.notSynchronized⟩ _ _ _ hl hP va_S.rf
theorem r_iretp (X : z_X p R s m args c cc own nL D κ a A kc ks) (M : z_M meth (some .int)) {x : Int} {Po : Int → zSt → Prop} (hd : decode cc pc = .ok (.ireturn, 1)) (hz : Po x σ) : z_G p l e R s m args below meth c nL D κ a A kc ks (MQ below (z_Qp D κ a A Po) args s kc ks A) σ lv pc [.int (zI x)] :=
  fun ls H locs hl hP hS => W.iret (v := zI x) X.1.1 X.1.2.1 M.1 (fun t ht hW => ⟨⟨zI x, (x, σ), rfl, ⟨rfl, hz⟩, by show va_P D vwCl (z_w κ a σ) t.heap; rw [ht]; exact hP⟩, hS.F ht⟩) hS.2.2 hd M.2
theorem r_zretp (X : z_X p R s m args c cc own nL D κ a A kc ks) (M : z_M meth (some .boolean)) {x : Int} {Po : Int → zSt → Prop} (hd : decode cc pc = .ok (.ireturn, 1)) (h01 : x = 0 ∨ x = 1) (hz : Po x σ) : z_G p l e R s m args below meth c nL D κ a A kc ks (MQ below (z_Qp D κ a A Po) args s kc ks A) σ lv pc [.int (zI x)] :=
  fun ls H locs hl hP hS => W.zret (v := zI x) X.1.1 X.1.2.1 M.1 (zI_narB h01) (fun t ht hW => ⟨⟨zI x, (x, σ), rfl, ⟨rfl, hz⟩, by show va_P D vwCl (z_w κ a σ) t.heap; rw [ht]; exact hP⟩, hS.F ht⟩) hS.2.2 hd M.2
theorem r_vretp (X : z_X p R s m args c cc own nL D κ a A kc ks) (M : z_M meth none) {Po : zSt → Prop} (hd : decode cc pc = .ok (.return_, 1)) (hz : Po σ) : z_G p l e R s m args below meth c nL D κ a A kc ks (MQ below (z_Qq D κ a A Po) args s kc ks A) σ lv pc [] :=
  fun ls H locs hl hP hS => W.vret X.1.1 X.1.2.1 M.1 (fun t ht hW => ⟨⟨σ, rfl, hz, by show va_P D vwCl (z_w κ a σ) t.heap; rw [ht]; exact hP⟩, hS.F ht⟩) hS.2.2 hd M.2
/-- an exact answer is a kind of answer -/
theorem z_Ti_p {y : MethodName} {bytes : ByteArray} {maxL : Nat} {ret : Option FieldType} {d : Nat} {av : List Value} {z : Int} {σ' : zSt} (h : z_Ti l D κ a A y bytes maxL ret d av σ z σ') : z_Tp l D κ a A y bytes maxL ret d av σ (fun x s => x = z ∧ s = σ') := by
  intro p e ha hc hk s m args below hf happ hpre hcalls
  obtain ⟨k, o, h1, h2, h3, ⟨⟨r, u, e1, e2, e3⟩, hF⟩, hL⟩ := h p e ha hc hk s m args below hf happ hpre hcalls
  exact ⟨k, o, h1, h2, h3, ⟨⟨r, (z, σ'), e1, ⟨e2, rfl, rfl⟩, e3⟩, hF⟩, hL⟩
theorem r_callVp (X : z_X p R s m args c cc own nL D κ a A kc ks) {y : MethodName} {d maxL ix n : Nat} {bytes : ByteArray} {ret : Option FieldType} {As rest : List Value} {Po : Int → zSt → Prop} {q ci N : Nat} {C : String} {T : u_T} {fs : (Int → Int) → List Value} (hM : z_Tp l D κ a A y bytes maxL ret d (.ref (a q) :: As) σ Po) (hd : decode cc pc = .ok (.invokevirtual ix, 3)) (h1 : Cond.methodLink own ix y ∈ z_TT) (h2 : Cond.instanceMethod y ∈ z_TT) (h3 : Cond.selects C y y ∈ z_TT) (h4 : Cond.initialized C ∈ z_TT) (h5 : Cond.code y bytes maxL ret ∈ z_TT) (hE : ∀ f, z_ce κ a q f = .inr (ci, fs f)) (hq : q < 96) (hc : vwCl[ci]? = some (C, T, N)) (hst : st = As.reverse ++ .ref (a q) :: rest) (hW : (rest.map fun v => v.category).sum ≤ 8) (hR : d + 1 ≤ R.frames ∧ 8 + (maxL + 11) + 64 * d ≤ R.locals) (hnd : y.cls = C ∧ y.cls ≠ "java/lang/invoke/MethodHandle" ∧ y.cls ≠ "java/lang/invoke/VarHandle" ∧ (parseMethodDescriptor y.desc).map (fun d => d.parameters.length) = some n) (hn : As.length = n) (k : ∀ (z : Int) (σ' : zSt), Po z σ' → z_G p l e R s m args below meth c nL D κ a A kc ks Q σ' lv (pc + 3) (.int (zI z) :: rest)) : z_G p l e R s m args below meth c nL D κ a A kc ks Q σ lv pc st := by
  subst hst
  intro ls H locs hl hP hS
  exact va_calli (va_runV (As := As) (rest := rest) X.1 hM (cwV n X.1.2.2.2.2 (z_goodV h1 h2 h3 h4 h5) rfl rfl rfl hnd hR) ⟨z_blind, va_recv (ws := z_w κ a σ) (q0 := q) (ci := ci) X.2.1.1 hP hc (by rw [z_w_at hq, hE]), fun U hU hW2 => ⟨rfl, by rw [hU]; exact hP, X.2.1.warm hW2⟩⟩ rfl hn hl.1 rfl (lv_room hW) hd ⟨X.2.2.2.1, X.2.2.2.2⟩) hS (fun q _ h => h) (fun q h => h) (fun r u t H1 locs1 ht _ hr hB _ _ hS1 => by
    rw [hr.1]
    rw [ht] at hB
    exact k u.1 u.2 hr.2 ls H1 locs1 hl hB hS1)
theorem r_callSp (X : z_X p R s m args c cc own nL D κ a A kc ks) {y : MethodName} {d maxL ix n : Nat} {bytes : ByteArray} {ret : Option FieldType} {As rest : List Value} {Po : Int → zSt → Prop} (hM : z_Tp l D κ a A y bytes maxL ret d As σ Po) (hd : decode cc pc = .ok (.invokestatic ix, 3)) (h1 : Cond.methodLink own ix y ∈ z_TT) (h2 : Cond.static y ∈ z_TT) (h4 : Cond.initialized y.cls ∈ z_TT) (h5 : Cond.code y bytes maxL ret ∈ z_TT) (hst : st = As.reverse ++ rest) (hW : (rest.map fun v => v.category).sum ≤ 8) (hR : d + 1 ≤ R.frames ∧ 8 + (maxL + 11) + 64 * d ≤ R.locals) (hnd : y.cls ≠ "java/lang/invoke/MethodHandle" ∧ y.cls ≠ "java/lang/invoke/VarHandle" ∧ (parseMethodDescriptor y.desc).map (fun d => d.parameters.length) = some n) (hn : As.length = n) (k : ∀ (z : Int) (σ' : zSt), Po z σ' → z_G p l e R s m args below meth c nL D κ a A kc ks Q σ' lv (pc + 3) (.int (zI z) :: rest)) : z_G p l e R s m args below meth c nL D κ a A kc ks Q σ lv pc st := by
  subst hst
  intro ls H locs hl hP hS
  exact va_calli (va_runS (As := As) (rest := rest) X.1 hM (va_cwS n X.1.2.2.2.2 (z_goodS h1 h2 h4 h5) rfl rfl rfl hnd hR) ⟨z_blind, fun U hU hW2 => ⟨rfl, by rw [hU]; exact hP, X.2.1.warm hW2⟩⟩ rfl hn hl.1 rfl (lv_room hW) hd ⟨X.2.2.2.1, X.2.2.2.2⟩) hS (fun q _ h => h) (fun q h => h) (fun r u t H1 locs1 ht _ hr hB _ _ hS1 => by
    rw [hr.1]
    rw [ht] at hB
    exact k u.1 u.2 hr.2 ls H1 locs1 hl hB hS1)
theorem r_callVNp (X : z_X p R s m args c cc own nL D κ a A kc ks) {y : MethodName} {d maxL ix n : Nat} {bytes : ByteArray} {ret : Option FieldType} {As rest : List Value} {Po : Int → zSt → Prop} {host : String} {q ci N : Nat} {C : String} {T : u_T} {fs : (Int → Int) → List Value} (hM : z_Tp l D κ a A y bytes maxL ret d (.ref (a q) :: As) σ Po) (hd : decode cc pc = .ok (.invokevirtual ix, 3)) (h5 : Cond.code y bytes maxL ret ∈ z_TT) (hlk : va_Nw (.methodLinkNest own ix y host) s) (hsel : Cond.selects C y y ∈ z_TT) (hinst : Cond.instanceMethod y ∈ z_TT) (hini : Cond.initialized y.cls ∈ z_TT) (hE : ∀ f, z_ce κ a q f = .inr (ci, fs f)) (hq : q < 96) (hc : vwCl[ci]? = some (C, T, N)) (hst : st = As.reverse ++ .ref (a q) :: rest) (hW : (rest.map fun v => v.category).sum ≤ 8) (hR : d + 1 ≤ R.frames ∧ 8 + (maxL + 11) + 64 * d ≤ R.locals) (hnd : y.cls ≠ "java/lang/invoke/MethodHandle" ∧ y.cls ≠ "java/lang/invoke/VarHandle" ∧ (parseMethodDescriptor y.desc).map (fun d => d.parameters.length) = some n) (hn : As.length = n) (k : ∀ (z : Int) (σ' : zSt), Po z σ' → z_G p l e R s m args below meth c nL D κ a A kc ks Q σ' lv (pc + 3) (.int (zI z) :: rest)) : z_G p l e R s m args below meth c nL D κ a A kc ks Q σ lv pc st := by
  subst hst
  intro ls H locs hl hP hS
  exact va_calli (va_runVN (As := As) (rest := rest) X.1 hM ⟨va_cnB n X.1.2.2.2.2 (z_goodN h5) rfl rfl rfl hlk (X.1.2.2.2.2 _ hini) hnd hR, X.1.2.2.2.2 _ hinst, X.1.2.2.2.2 _ hsel⟩ ⟨z_blind, va_recv (ws := z_w κ a σ) (q0 := q) (ci := ci) X.2.1.1 hP hc (by rw [z_w_at hq, hE]), fun U hU hW2 => ⟨rfl, by rw [hU]; exact hP, X.2.1.warm hW2⟩⟩ rfl hn hl.1 rfl (lv_room hW) hd ⟨X.2.2.2.1, X.2.2.2.2⟩) hS (fun q _ h => h) (fun q h => h) (fun r u t H1 locs1 ht _ hr hB _ _ hS1 => by
    rw [hr.1]
    rw [ht] at hB
    exact k u.1 u.2 hr.2 ls H1 locs1 hl hB hS1)
theorem r_callVq (X : z_X p R s m args c cc own nL D κ a A kc ks) {y : MethodName} {d maxL ix n : Nat} {bytes : ByteArray} {ret : Option FieldType} {As rest : List Value} {Po : zSt → Prop} {q ci N : Nat} {C : String} {T : u_T} {fs : (Int → Int) → List Value} (hM : z_Tq l D κ a A y bytes maxL ret d (.ref (a q) :: As) σ Po) (hd : decode cc pc = .ok (.invokevirtual ix, 3)) (h1 : Cond.methodLink own ix y ∈ z_TT) (h2 : Cond.instanceMethod y ∈ z_TT) (h3 : Cond.selects C y y ∈ z_TT) (h4 : Cond.initialized C ∈ z_TT) (h5 : Cond.code y bytes maxL ret ∈ z_TT) (hE : ∀ f, z_ce κ a q f = .inr (ci, fs f)) (hq : q < 96) (hc : vwCl[ci]? = some (C, T, N)) (hst : st = As.reverse ++ .ref (a q) :: rest) (hW : (rest.map fun v => v.category).sum ≤ 8) (hR : d + 1 ≤ R.frames ∧ 8 + (maxL + 11) + 64 * d ≤ R.locals) (hnd : y.cls = C ∧ y.cls ≠ "java/lang/invoke/MethodHandle" ∧ y.cls ≠ "java/lang/invoke/VarHandle" ∧ (parseMethodDescriptor y.desc).map (fun d => d.parameters.length) = some n) (hn : As.length = n) (k : ∀ (σ' : zSt), Po σ' → z_G p l e R s m args below meth c nL D κ a A kc ks Q σ' lv (pc + 3) rest) : z_G p l e R s m args below meth c nL D κ a A kc ks Q σ lv pc st := by
  subst hst
  intro ls H locs hl hP hS
  exact va_callv (va_runV (As := As) (rest := rest) X.1 hM (cwV n X.1.2.2.2.2 (z_goodV h1 h2 h3 h4 h5) rfl rfl rfl hnd hR) ⟨z_blind, va_recv (ws := z_w κ a σ) (q0 := q) (ci := ci) X.2.1.1 hP hc (by rw [z_w_at hq, hE]), fun U hU hW2 => ⟨rfl, by rw [hU]; exact hP, X.2.1.warm hW2⟩⟩ rfl hn hl.1 rfl (lv_room hW) hd ⟨X.2.2.2.1, X.2.2.2.2⟩) hS (fun q _ h => h) (fun q h => h) (fun u t H1 locs1 ht _ hu hB _ _ hS1 => by
    rw [ht] at hB
    exact k u hu ls H1 locs1 hl hB hS1)
theorem r_callSq (X : z_X p R s m args c cc own nL D κ a A kc ks) {y : MethodName} {d maxL ix n : Nat} {bytes : ByteArray} {ret : Option FieldType} {As rest : List Value} {Po : zSt → Prop} (hM : z_Tq l D κ a A y bytes maxL ret d As σ Po) (hd : decode cc pc = .ok (.invokestatic ix, 3)) (h1 : Cond.methodLink own ix y ∈ z_TT) (h2 : Cond.static y ∈ z_TT) (h4 : Cond.initialized y.cls ∈ z_TT) (h5 : Cond.code y bytes maxL ret ∈ z_TT) (hst : st = As.reverse ++ rest) (hW : (rest.map fun v => v.category).sum ≤ 8) (hR : d + 1 ≤ R.frames ∧ 8 + (maxL + 11) + 64 * d ≤ R.locals) (hnd : y.cls ≠ "java/lang/invoke/MethodHandle" ∧ y.cls ≠ "java/lang/invoke/VarHandle" ∧ (parseMethodDescriptor y.desc).map (fun d => d.parameters.length) = some n) (hn : As.length = n) (k : ∀ (σ' : zSt), Po σ' → z_G p l e R s m args below meth c nL D κ a A kc ks Q σ' lv (pc + 3) rest) : z_G p l e R s m args below meth c nL D κ a A kc ks Q σ lv pc st := by
  subst hst
  intro ls H locs hl hP hS
  exact va_callv (va_runS (As := As) (rest := rest) X.1 hM (va_cwS n X.1.2.2.2.2 (z_goodS h1 h2 h4 h5) rfl rfl rfl hnd hR) ⟨z_blind, fun U hU hW2 => ⟨rfl, by rw [hU]; exact hP, X.2.1.warm hW2⟩⟩ rfl hn hl.1 rfl (lv_room hW) hd ⟨X.2.2.2.1, X.2.2.2.2⟩) hS (fun q _ h => h) (fun q h => h) (fun u t H1 locs1 ht _ hu hB _ _ hS1 => by
    rw [ht] at hB
    exact k u hu ls H1 locs1 hl hB hS1)
theorem r_callVNq (X : z_X p R s m args c cc own nL D κ a A kc ks) {y : MethodName} {d maxL ix n : Nat} {bytes : ByteArray} {ret : Option FieldType} {As rest : List Value} {Po : zSt → Prop} {host : String} {q ci N : Nat} {C : String} {T : u_T} {fs : (Int → Int) → List Value} (hM : z_Tq l D κ a A y bytes maxL ret d (.ref (a q) :: As) σ Po) (hd : decode cc pc = .ok (.invokevirtual ix, 3)) (h5 : Cond.code y bytes maxL ret ∈ z_TT) (hlk : va_Nw (.methodLinkNest own ix y host) s) (hsel : Cond.selects C y y ∈ z_TT) (hinst : Cond.instanceMethod y ∈ z_TT) (hini : Cond.initialized y.cls ∈ z_TT) (hE : ∀ f, z_ce κ a q f = .inr (ci, fs f)) (hq : q < 96) (hc : vwCl[ci]? = some (C, T, N)) (hst : st = As.reverse ++ .ref (a q) :: rest) (hW : (rest.map fun v => v.category).sum ≤ 8) (hR : d + 1 ≤ R.frames ∧ 8 + (maxL + 11) + 64 * d ≤ R.locals) (hnd : y.cls ≠ "java/lang/invoke/MethodHandle" ∧ y.cls ≠ "java/lang/invoke/VarHandle" ∧ (parseMethodDescriptor y.desc).map (fun d => d.parameters.length) = some n) (hn : As.length = n) (k : ∀ (σ' : zSt), Po σ' → z_G p l e R s m args below meth c nL D κ a A kc ks Q σ' lv (pc + 3) rest) : z_G p l e R s m args below meth c nL D κ a A kc ks Q σ lv pc st := by
  subst hst
  intro ls H locs hl hP hS
  exact va_callv (va_runVN (As := As) (rest := rest) X.1 hM ⟨va_cnB n X.1.2.2.2.2 (z_goodN h5) rfl rfl rfl hlk (X.1.2.2.2.2 _ hini) hnd hR, X.1.2.2.2.2 _ hinst, X.1.2.2.2.2 _ hsel⟩ ⟨z_blind, va_recv (ws := z_w κ a σ) (q0 := q) (ci := ci) X.2.1.1 hP hc (by rw [z_w_at hq, hE]), fun U hU hW2 => ⟨rfl, by rw [hU]; exact hP, X.2.1.warm hW2⟩⟩ rfl hn hl.1 rfl (lv_room hW) hd ⟨X.2.2.2.1, X.2.2.2.2⟩) hS (fun q _ h => h) (fun q h => h) (fun u t H1 locs1 ht _ hu hB _ _ hS1 => by
    rw [ht] at hB
    exact k u hu ls H1 locs1 hl hB hS1)
theorem zI_nat (n : Nat) : zI (n : Int) = nI n := Int32.ofInt_eq_ofNat ..
theorem zI_div {x y : Int} (hx : 0 ≤ x) (hx2 : x ≤ 2147483647) (hy : 0 < y) (hy2 : y ≤ 2147483647) : zI x / zI y = zI (x / y) := by
  obtain ⟨n, rfl⟩ := Int.eq_ofNat_of_zero_le hx
  obtain ⟨k, rfl⟩ := Int.eq_ofNat_of_zero_le (Int.le_of_lt hy)
  rw [zI_nat, zI_nat, pk_div (by omega) (by omega) (by omega), ← zI_nat]
  rfl
theorem r_idiv (X : z_X p R s m args c cc own nL D κ a A kc ks) {x y : Int} (hd : decode cc pc = .ok (.idiv, 1)) (hr : (0 ≤ x ∧ x ≤ 2147483647) ∧ 0 < y ∧ y ≤ 2147483647) (k : z_G p l e R s m args below meth c nL D κ a A kc ks Q σ lv (pc + 1) (.int (zI (x / y)) :: st)) : z_G p l e R s m args below meth c nL D κ a A kc ks Q σ lv pc (.int (zI y) :: .int (zI x) :: st) :=
  fun ls H locs hl hP hS => lv_idiv X.1.1 X.1.2.1 hd (fun h => by have := (zI_eq0 (x := y) ⟨by omega, by omega⟩).mp h; omega) (by rw [zI_div hr.1.1 hr.1.2 hr.2.1 hr.2.2]; exact k ls H locs hl hP hS)
theorem r_irem (X : z_X p R s m args c cc own nL D κ a A kc ks) {x y : Int} (hd : decode cc pc = .ok (.irem, 1)) (hr : (0 ≤ x ∧ x ≤ 2147483647) ∧ 0 < y ∧ y ≤ 2147483647) (k : z_G p l e R s m args below meth c nL D κ a A kc ks Q σ lv (pc + 1) (.int (zI (x % y)) :: st)) : z_G p l e R s m args below meth c nL D κ a A kc ks Q σ lv pc (.int (zI y) :: .int (zI x) :: st) :=
  fun ls H locs hl hP hS => lv_irem X.1.1 X.1.2.1 hd (fun h => by have := (zI_eq0 (x := y) ⟨by omega, by omega⟩).mp h; omega) (by rw [zI_div hr.1.1 hr.1.2 hr.2.1 hr.2.2, ← zI_mul, ← zI_sub, show x - x / y * y = x % y by rw [Int.emod_def, Int.mul_comm]]; exact k ls H locs hl hP hS)
/-- another word for the number on the stack -/
theorem r_eqi {x y : Int} (h : x = y) (k : z_G p l e R s m args below meth c nL D κ a A kc ks Q σ lv pc (.int (zI y) :: st)) : z_G p l e R s m args below meth c nL D κ a A kc ks Q σ lv pc (.int (zI x) :: st) := by rw [h]; exact k
theorem r_eqs {σ' : zSt} (h : σ = σ') (k : z_G p l e R s m args below meth c nL D κ a A kc ks Q σ' lv pc st) : z_G p l e R s m args below meth c nL D κ a A kc ks Q σ lv pc st := by rw [h]; exact k
theorem r_tabIn (X : z_X p R s m args c cc own nL D κ a A kc ks) {dflt lo hi : Int} {offs : Array Int} {len : Nat} {x : Int} {off : Int} {tgt : Nat} (hd : decode cc pc = .ok (.tableswitch dflt lo hi offs, len)) (hr : z_in x) (h1 : lo ≤ x ∧ x ≤ hi) (ho : offs[(x - lo).toNat]? = some off) (ht : (pc : Int) + off = (tgt : Int)) (k : z_G p l e R s m args below meth c nL D κ a A kc ks Q σ lv tgt st) : z_G p l e R s m args below meth c nL D κ a A kc ks Q σ lv pc (.int (zI x) :: st) :=
  fun ls H locs hl hP hS => lv_tableIn X.1.1 X.1.2.1 hd (by rw [zI_toInt hr]; omega) (by rw [zI_toInt hr]; omega) (by rw [zI_toInt hr]; exact ho) ht (k ls H locs hl hP hS)
theorem r_tabOut (X : z_X p R s m args c cc own nL D κ a A kc ks) {dflt lo hi : Int} {offs : Array Int} {len : Nat} {x : Int} {tgt : Nat} (hd : decode cc pc = .ok (.tableswitch dflt lo hi offs, len)) (hr : z_in x) (h1 : x < lo ∨ hi < x) (ht : (pc : Int) + dflt = (tgt : Int)) (k : z_G p l e R s m args below meth c nL D κ a A kc ks Q σ lv tgt st) : z_G p l e R s m args below meth c nL D κ a A kc ks Q σ lv pc (.int (zI x) :: st) :=
  fun ls H locs hl hP hS => lv_tableOut X.1.1 X.1.2.1 hd (by rw [zI_toInt hr]; omega) ht (k ls H locs hl hP hS)
end ZP
