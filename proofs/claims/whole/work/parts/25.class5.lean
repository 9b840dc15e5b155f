def z_cp (f g : Int → Int) (n : Int) : Int → Int := fun j => if 0 ≤ j ∧ j < n then f j else g j
theorem zaI_cp {f g : Int → Int} {n : Nat} : va_cpy (zaI f) (zaI g) 0 0 n = zaI (z_cp f g (n : Int)) := by
  funext j
  unfold va_cpy zaI z_cp
  by_cases h : j < n
  · rw [if_pos ⟨Nat.zero_le _, by omega⟩, if_pos (by omega), Nat.sub_zero, Nat.zero_add]
  · rw [if_neg (by omega), if_neg (by omega)]
theorem zI_cl0 : (zI 0).toNatClampNeg = 0 := by decide +kernel
theorem zI_clN {n : Nat} (h : n < 2147483648) : (zI (n : Int)).toNatClampNeg = n := by rw [zI_nat, nI_clamp (by omega)]
theorem r_copyI {p : Program} {l : Launch} {e : Env} {R : Room} {s : State} {m : MethodId} {args : Array Value} {below : List Frame} {meth : Method} {c : Code} {cc : ByteArray} {own : String} {nL : Nat} {D : va_G} {κ : Nat → ClassId} {a : Nat → Nat} {A : Nat → Prop} {kc ks : Nat} {Q : State → Prop} {σ : zSt} {lv : List (Option Value)} {pc : Nat} {st : List Value} (X : z_X p R s m args c cc own nL D κ a A kc ks) {q0 q1 n0 n1 ix : Nat} (n : Nat) (hd : decode cc pc = .ok (.invokestatic ix, 3)) (h1 : Cond.methodLink own ix arraycopyName ∈ z_TT) (h2 : Cond.native arraycopyName ∈ z_TT) (h3 : Cond.static arraycopyName ∈ z_TT) (h4 : Cond.initialized "java/lang/System" ∈ z_TT) (hE0 : ∀ f, z_ce κ a q0 f = z_eI κ n0 f) (hE1 : ∀ f, z_ce κ a q1 f = z_eI κ n1 f) (hq : q0 < 96 ∧ q1 < 96) (hn : n ≤ n0 ∧ n ≤ n1) (hn2 : n < 2147483648)  (hR : 1 ≤ R.frames ∧ (st.map fun v => v.category).sum + (nativeFrameWords "java/lang/System" "arraycopy" 5 + 11) ≤ R.locals) (k : z_G p l e R s m args below meth c nL D κ a A kc ks Q (z_uc σ q1 (z_cp (σ q0) (σ q1) (n : Int))) lv (pc + 3) st) : z_G p l e R s m args below meth c nL D κ a A kc ks Q σ lv pc (.int (zI (n : Int)) :: .int (zI 0) :: .ref (a q1) :: .int (zI 0) :: .ref (a q0) :: st) := by
  intro ls H locs hl hP hS
  refine va_copyi X.1.1 X.1.2.1 (X.1.2.2.1.trans hl.1.symm) X.1.2.2.2.1 (X.1.2.2.2.2 _ h1) (X.1.2.2.2.2 _ h2) (X.1.2.2.2.2 _ h3) (X.1.2.2.2.2 _ h4) X.2.1.1 hP (X.2.2.1.D κ σ) hS q0 q1 0 0 (ty := .int) (by rw [z_w_at hq.1, hE0]) (by rw [z_w_at hq.2, hE1]) rfl rfl rfl (by decide +kernel) (by decide +kernel) (by rw [zI_nat]; exact nI_pos (by omega)) (by rw [zI_cl0, zI_clN hn2]; omega) (by rw [zI_cl0, zI_clN hn2]; omega) (fun i _ => rfl) hR.1 hR.2 hd (fun H1 locs1 hP1 _ hS1 => k ls H1 locs1 hl ?_ hS1)
  rw [zI_cl0, zI_clN hn2, zaI_cp, show (Sum.inl (κ 0, n1, .inl (zaI (z_cp (σ q0) (σ q1) (n : Int)))) : va_E) = z_ce κ a q1 (z_cp (σ q0) (σ q1) (n : Int)) from (hE1 _).symm, z_w_setc hq.2] at hP1
  exact hP1
theorem r_copyZ {p : Program} {l : Launch} {e : Env} {R : Room} {s : State} {m : MethodId} {args : Array Value} {below : List Frame} {meth : Method} {c : Code} {cc : ByteArray} {own : String} {nL : Nat} {D : va_G} {κ : Nat → ClassId} {a : Nat → Nat} {A : Nat → Prop} {kc ks : Nat} {Q : State → Prop} {σ : zSt} {lv : List (Option Value)} {pc : Nat} {st : List Value} (X : z_X p R s m args c cc own nL D κ a A kc ks) {q0 q1 n0 n1 ix : Nat} (n : Nat) (hd : decode cc pc = .ok (.invokestatic ix, 3)) (h1 : Cond.methodLink own ix arraycopyName ∈ z_TT) (h2 : Cond.native arraycopyName ∈ z_TT) (h3 : Cond.static arraycopyName ∈ z_TT) (h4 : Cond.initialized "java/lang/System" ∈ z_TT) (hE0 : ∀ f, z_ce κ a q0 f = z_eZ κ n0 f) (hE1 : ∀ f, z_ce κ a q1 f = z_eZ κ n1 f) (hq : q0 < 96 ∧ q1 < 96) (hn : n ≤ n0 ∧ n ≤ n1) (hn2 : n < 2147483648) (hz : ∀ j : Int, 0 ≤ j → j < (n : Int) → σ q0 j = 0 ∨ σ q0 j = 1) (hR : 1 ≤ R.frames ∧ (st.map fun v => v.category).sum + (nativeFrameWords "java/lang/System" "arraycopy" 5 + 11) ≤ R.locals) (k : z_G p l e R s m args below meth c nL D κ a A kc ks Q (z_uc σ q1 (z_cp (σ q0) (σ q1) (n : Int))) lv (pc + 3) st) : z_G p l e R s m args below meth c nL D κ a A kc ks Q σ lv pc (.int (zI (n : Int)) :: .int (zI 0) :: .ref (a q1) :: .int (zI 0) :: .ref (a q0) :: st) := by
  intro ls H locs hl hP hS
  refine va_copyi X.1.1 X.1.2.1 (X.1.2.2.1.trans hl.1.symm) X.1.2.2.2.1 (X.1.2.2.2.2 _ h1) (X.1.2.2.2.2 _ h2) (X.1.2.2.2.2 _ h3) (X.1.2.2.2.2 _ h4) X.2.1.1 hP (X.2.2.1.D κ σ) hS q0 q1 2 2 (ty := .boolean) (by rw [z_w_at hq.1, hE0]) (by rw [z_w_at hq.2, hE1]) rfl rfl rfl (by decide +kernel) (by decide +kernel) (by rw [zI_nat]; exact nI_pos (by omega)) (by rw [zI_cl0, zI_clN hn2]; omega) (by rw [zI_cl0, zI_clN hn2]; omega) (fun i hi => by
    rw [zI_clN hn2] at hi
    rw [zI_cl0, Nat.zero_add]
    exact zI_fitB (hz (i : Int) (by omega) (by omega))) hR.1 hR.2 hd (fun H1 locs1 hP1 _ hS1 => k ls H1 locs1 hl ?_ hS1)
  rw [zI_cl0, zI_clN hn2, zaI_cp, show (Sum.inl (κ 2, n1, .inl (zaI (z_cp (σ q0) (σ q1) (n : Int)))) : va_E) = z_ce κ a q1 (z_cp (σ q0) (σ q1) (n : Int)) from (hE1 _).symm, z_w_setc hq.2] at hP1
  exact hP1
set_option maxRecDepth 100000 in
set_option maxHeartbeats 4000000 in
theorem c_J7_fill_53178 (l : Launch) {D : va_G} {κ : Nat → ClassId} {a : Nat → Nat} {A : Nat → Prop} (hA : z_aD a A) (σ : zSt) (q n : Nat) (v : Int) (hE : ∀ f, z_ce κ a q f = z_eI κ n f) (hq : q < 96) (hn9 : n < 100000) : z_Tq l D κ a A yJ7_fill_53178 cJ7_fill_53178 4 none 0 [.ref (a q), .int (zI v)] σ (fun σ' => (∀ c : Nat, c ≠ q → σ' c = σ c) ∧ ∀ j : Int, 0 ≤ j → j < (n : Int) → σ' q j = v) := by
  refine z_Tq_of (cc := cJ7_fill_53178) (maxL := 4) (ret := none) (own := RJ7) (lv0 := [some (.ref (a q)), some (.int (zI v)), none, none]) hA (by decide) rfl (Nat.le_of_ble_eq_true rfl) rfl ?_
  intro pg e s mm below meth c X M
  refine r_iconst X dJ7_fill_53178_0 ?_
  refine r_istore2 X dJ7_fill_53178_1 ?_
  refine r_aload0 X dJ7_fill_53178_2 ?_
  refine r_alen X dJ7_fill_53178_3 hE hq ?_
  refine r_istore3 X dJ7_fill_53178_4 ?_
  have L : ∀ (fu : Nat) (i : Int) (σ1 : zSt), ((n : Int) - i) < (fu : Int) → 0 ≤ i → i ≤ (n : Int) → (∀ c : Nat, c ≠ q → σ1 c = σ c) → (∀ j : Int, 0 ≤ j → j < i → σ1 q j = v) → z_G pg l e (z_rm 0) s mm ([.ref (a q), .int (zI v)] : List Value).toArray below meth c 4 D κ a A 0 0 (MQ below (z_Qq D κ a A (fun σ' => (∀ c : Nat, c ≠ q → σ' c = σ c) ∧ ∀ j : Int, 0 ≤ j → j < (n : Int) → σ' q j = v)) ([.ref (a q), .int (zI v)] : List Value).toArray s 0 0 A) σ1 [some (.ref (a q)), some (.int (zI v)), some (.int (zI i)), some (.int (zI (n : Int)))] 5 [] := by
    intro fu
    induction fu with
    | zero =>
      intro i σ1 hn h0 h1 hF hv
      omega
    | succ fu ihL =>
      intro i σ1 hn h0 h1 hF hv
      refine r_iload2 X dJ7_fill_53178_5 ?_
      refine r_iload3 X dJ7_fill_53178_6 ?_
      refine r_icmp_ge (tgt := 20) X dJ7_fill_53178_7 ⟨⟨by omega, by omega⟩, by omega, by omega⟩ (fun h7 => ?_) (fun h7 => ?_)
      · exact r_vretp X M dJ7_fill_53178_20 ⟨hF, fun j j0 j1 => hv j j0 (by omega)⟩
      · refine r_aload0 X dJ7_fill_53178_10 ?_
        refine r_iload2 X dJ7_fill_53178_11 ?_
        refine r_iload1 X dJ7_fill_53178_12 ?_
        refine r_iast X dJ7_fill_53178_13 hE hq ⟨by omega, by omega⟩ (hn := by omega) ?_
        refine r_iinc2 X dJ7_fill_53178_14 ?_
        refine r_goto (tgt := 5) X dJ7_fill_53178_17 (by decide) ?_
        exact ihL (i + 1) _ (by omega) (by omega) (by omega) (fun c hc => by rw [z_up_c hc]; exact hF c hc) (fun j j0 j1 => by by_cases e : j = i; (rw [e, z_up_s]); (rw [z_up_j e]; exact hv j j0 (by omega)))
  exact L (n + 1) 0 σ (by omega) (by omega) (by omega) (fun _ _ => rfl) (fun j _ _ => by omega)

theorem z_abs_neg (x : Int) : z_abs (-x) = z_abs x := by unfold z_abs; split <;> split <;> omega
theorem nr_start {h fx fy tx ty a b : Int} : ∀ t : Nat, (∀ i : Nat, i < t → nval h fx fy tx ty ((i : Int) + 1) ≤ a ∧ nval h fx fy tx ty ((i : Int) + 1) ≤ b) → t ≠ 0 → nr h fx fy tx ty a t = nr h fx fy tx ty b t
  | 0, _, q => absurd rfl q
  | 1, hi, _ => by
    have := hi 0 (by omega)
    unfold nr nr
    omega
  | t + 2, hi, _ => by
    have ih := nr_start (t + 1) (fun i q => hi i (by omega)) (by omega)
    unfold nr
    rw [ih]
theorem nval_neg (h fx fy tx ty t : Int) : nval h (-fx) (-fy) (-tx) (-ty) t = nval h fx fy tx ty t := by
  unfold nval
  rw [show h * -fx + t * (-tx - -fx) = -(h * fx + t * (tx - fx)) by rw [show -tx - -fx = -(tx - fx) by omega, Int.mul_neg, Int.mul_neg]; omega, show h * -fy + t * (-ty - -fy) = -(h * fy + t * (ty - fy)) by rw [show -ty - -fy = -(ty - fy) by omega, Int.mul_neg, Int.mul_neg]; omega, z_abs_neg, z_abs_neg]
theorem nr_neg (h fx fy tx ty s0 : Int) : ∀ t : Nat, nr h (-fx) (-fy) (-tx) (-ty) s0 t = nr h fx fy tx ty s0 t
  | 0 => rfl
  | t + 1 => by
    unfold nr
    rw [nr_neg h fx fy tx ty s0 t, nval_neg]
theorem nval_alt (h fx fy tx ty t : Int) : max (z_abs (fx * (h - t) + tx * t)) (z_abs (fy * (h - t) + ty * t)) = nval h fx fy tx ty t := by
  unfold nval
  rw [show fx * (h - t) + tx * t = h * fx + t * (tx - fx) by rw [Int.mul_sub, Int.mul_sub, Int.mul_comm fx h, Int.mul_comm fx t, Int.mul_comm tx t]; omega, show fy * (h - t) + ty * t = h * fy + t * (ty - fy) by rw [Int.mul_sub, Int.mul_sub, Int.mul_comm fy h, Int.mul_comm fy t, Int.mul_comm ty t]; omega]

set_option maxRecDepth 100000 in
set_option maxHeartbeats 4000000 in
theorem c_X5_leastStep (l : Launch) {D : va_G} {κ : Nat → ClassId} {a : Nat → Nat} {A : Nat → Prop} (hA : z_aD a A) (σ : zSt) (c0 fx fy tx ty : Int) (hc : 1 ≤ c0 ∧ c0 ≤ 16) (h1 : -40 ≤ fx ∧ fx ≤ 40) (h2 : -40 ≤ fy ∧ fy ≤ 40) (h3 : -40 ≤ tx ∧ tx ≤ 40) (h4 : -40 ≤ ty ∧ ty ≤ 40) : z_Ti l D κ a A yX5_leastStep cX5_leastStep 10 (some .int) 1 [.int (zI c0), .int (zI fx), .int (zI fy), .int (zI tx), .int (zI ty)] σ (nr (2 * c0) fx fy tx ty 1000000 ((2 * c0) - 1).toNat) (σ) := by
  refine z_Ti_of (cc := cX5_leastStep) (maxL := 10) (ret := (some .int)) (own := RX5) (lv0 := [some (.int (zI c0)), some (.int (zI fx)), some (.int (zI fy)), some (.int (zI tx)), some (.int (zI ty)), none, none, none, none, none]) hA (by decide) rfl (Nat.le_of_ble_eq_true rfl) rfl ?_
  intro pg e s mm below meth c X M
  refine r_iconst X dX5_leastStep_0 ?_
  refine r_iload0 X dX5_leastStep_1 ?_
  refine r_imul X dX5_leastStep_2 ?_
  refine r_istore5 X dX5_leastStep_3 ?_
  refine r_ldc X dX5_leastStep_5 2147483647 (by decide +kernel) tw_456 ?_
  refine r_istore6 X dX5_leastStep_7 ?_
  refine r_iconst X dX5_leastStep_9 ?_
  refine r_istore7 X dX5_leastStep_10 ?_
  have LP : ∀ (fu : Nat) (t L0 : Int) (o8 o9 : Option Value), ((2 * c0) - t) < (fu : Int) → 1 ≤ t → t ≤ (2 * c0) → L0 = nr (2 * c0) fx fy tx ty 2147483647 (t - 1).toNat → 0 ≤ L0 ∧ L0 ≤ 2147483647 → z_G pg l e (z_rm 1) s mm ([.int (zI c0), .int (zI fx), .int (zI fy), .int (zI tx), .int (zI ty)] : List Value).toArray below meth c 10 D κ a A 0 0 (MQ below (z_Qi D κ a A (nr (2 * c0) fx fy tx ty 1000000 ((2 * c0) - 1).toNat) (σ)) ([.int (zI c0), .int (zI fx), .int (zI fy), .int (zI tx), .int (zI ty)] : List Value).toArray s 0 0 A) σ [some (.int (zI c0)), some (.int (zI fx)), some (.int (zI fy)), some (.int (zI tx)), some (.int (zI ty)), some (.int (zI (2 * c0))), some (.int (zI L0)), some (.int (zI t)), o8, o9] 12 [] := by
    intro fu
    induction fu with
    | zero =>
      intro t L0 o8 o9 hn t0 t1 hL hLr
      omega
    | succ fu ihLP =>
      intro t L0 o8 o9 hn t0 t1 hL hLr
      refine r_iload7 X dX5_leastStep_12 ?_
      refine r_iload5 X dX5_leastStep_14 ?_
      refine r_icmp_ge (tgt := 74) X dX5_leastStep_16 ⟨⟨by omega, by omega⟩, by omega, by omega⟩ (fun h16 => ?_) (fun h16 => ?_)
      · refine r_iload6 X dX5_leastStep_74 ?_
        exact r_iret X M dX5_leastStep_76 (by rw [hL, show (t - 1).toNat = ((2 * c0) - 1).toNat by omega]; exact nr_start _ (fun i hi => by have := (nval_in (h := (2 * c0)) (fx := fx) (fy := fy) (tx := tx) (ty := ty) (t := (i : Int) + 1) (by omega) (by omega) h1 h2 h3 h4).2; omega) (by omega)) rfl
      · have nb := nval_in (h := (2 * c0)) (fx := fx) (fy := fy) (tx := tx) (ty := ty) (t := t) (by omega) (by omega) h1 h2 h3 h4
        have ea : fx * ((2 * c0) - t) + tx * t = (2 * c0) * fx + t * (tx - fx) := by rw [Int.mul_sub, Int.mul_sub, Int.mul_comm fx, Int.mul_comm fx t, Int.mul_comm tx t]; omega
        have eb : fy * ((2 * c0) - t) + ty * t = (2 * c0) * fy + t * (ty - fy) := by rw [Int.mul_sub, Int.mul_sub, Int.mul_comm fy, Int.mul_comm fy t, Int.mul_comm ty t]; omega
        have e1 := z_abs_in (x := (2 * c0) * fx + t * (tx - fx)) (b := 4000) (by omega)
        have e2 := z_abs_in (x := (2 * c0) * fy + t * (ty - fy)) (b := 4000) (by omega)
        refine r_iload1 X dX5_leastStep_19 ?_
        refine r_iload5 X dX5_leastStep_20 ?_
        refine r_iload7 X dX5_leastStep_22 ?_
        refine r_isub X dX5_leastStep_24 ?_
        refine r_imul X dX5_leastStep_25 ?_
        refine r_iload3 X dX5_leastStep_26 ?_
        refine r_iload7 X dX5_leastStep_27 ?_
        refine r_imul X dX5_leastStep_29 ?_
        refine r_iadd X dX5_leastStep_30 ?_
        refine r_eqi ea ?_
        refine r_mabs X dX5_leastStep_31 ⟨by omega, by omega⟩ tw_457 tw_425 tw_47 tw_426 ⟨by decide, Nat.le_of_ble_eq_true rfl⟩ ?_
        refine r_istore8 X dX5_leastStep_34 ?_
        refine r_iload2 X dX5_leastStep_36 ?_
        refine r_iload5 X dX5_leastStep_37 ?_
        refine r_iload7 X dX5_leastStep_39 ?_
        refine r_isub X dX5_leastStep_41 ?_
        refine r_imul X dX5_leastStep_42 ?_
        refine r_iload4 X dX5_leastStep_43 ?_
        refine r_iload7 X dX5_leastStep_45 ?_
        refine r_imul X dX5_leastStep_47 ?_
        refine r_iadd X dX5_leastStep_48 ?_
        refine r_eqi eb ?_
        refine r_mabs X dX5_leastStep_49 ⟨by omega, by omega⟩ tw_457 tw_425 tw_47 tw_426 ⟨by decide, Nat.le_of_ble_eq_true rfl⟩ ?_
        refine r_istore9 X dX5_leastStep_52 ?_
        refine r_iload6 X dX5_leastStep_54 ?_
        refine r_iload8 X dX5_leastStep_56 ?_
        refine r_iload9 X dX5_leastStep_58 ?_
        refine r_mmax X dX5_leastStep_60 ⟨⟨by omega, by omega⟩, by omega, by omega⟩ tw_458 tw_428 tw_47 tw_429 ⟨by decide, Nat.le_of_ble_eq_true rfl⟩ ?_
        refine r_eqi (y := nval (2 * c0) fx fy tx ty t) rfl ?_
        refine r_mmin X dX5_leastStep_63 ⟨⟨by omega, by omega⟩, by omega, by omega⟩ tw_459 tw_267 tw_47 tw_268 ⟨by decide, Nat.le_of_ble_eq_true rfl⟩ ?_
        refine r_istore6 X dX5_leastStep_66 ?_
        refine r_iinc7 X dX5_leastStep_68 ?_
        refine r_goto (tgt := 12) X dX5_leastStep_71 (by decide) ?_
        exact ihLP (t + 1) _ _ _ (by omega) (by omega) (by omega) (by rw [show (t + 1 - 1).toNat = (t - 1).toNat + 1 by omega]; unfold nr; rw [← hL, show (((t - 1).toNat : Nat) : Int) + 1 = t by omega]) (by omega)
  exact LP 40 1 2147483647 none none (by omega) (by omega) (by omega) rfl (by omega)

