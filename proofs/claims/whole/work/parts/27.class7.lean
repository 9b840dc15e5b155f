theorem mix7 {a b c d : Int} (h : a * 7 + b = c * 7 + d) (hb : 0 ≤ b ∧ b < 7) (hd : 0 ≤ d ∧ d < 7) : a = c ∧ b = d := by omega
theorem mix6 {a b c d : Int} (h : a * 6 + b = c * 6 + d) (hb : 0 ≤ b ∧ b < 6) (hd : 0 ≤ d ∧ d < 6) : a = c ∧ b = d := by omega
theorem r_ishr {p : Program} {l : Launch} {e : Env} {R : Room} {s : State} {m : MethodId} {args : Array Value} {below : List Frame} {meth : Method} {c : Code} {cc : ByteArray} {own : String} {nL : Nat} {D : va_G} {κ : Nat → ClassId} {a : Nat → Nat} {A : Nat → Prop} {kc ks : Nat} {Q : State → Prop} {σ : zSt} {lv : List (Option Value)} {pc : Nat} {st : List Value} (X : z_X p R s m args c cc own nL D κ a A kc ks) {u d : Nat} (hd : decode cc pc = .ok (.ishr, 1)) (h : u < 128 ∧ d < 7) (k : z_G p l e R s m args below meth c nL D κ a A kc ks Q σ lv (pc + 1) (.int (zI ((u / 2 ^ d : Nat) : Int)) :: st)) : z_G p l e R s m args below meth c nL D κ a A kc ks Q σ lv pc (.int (zI (d : Int)) :: .int (zI (u : Int)) :: st) :=
  fun ls H locs hl hP hS => lv_ishr X.1.1 X.1.2.1 hd (by rw [zb_shr u h.1 d h.2]; exact k ls H locs hl hP hS)
theorem r_iand {p : Program} {l : Launch} {e : Env} {R : Room} {s : State} {m : MethodId} {args : Array Value} {below : List Frame} {meth : Method} {c : Code} {cc : ByteArray} {own : String} {nL : Nat} {D : va_G} {κ : Nat → ClassId} {a : Nat → Nat} {A : Nat → Prop} {kc ks : Nat} {Q : State → Prop} {σ : zSt} {lv : List (Option Value)} {pc : Nat} {st : List Value} (X : z_X p R s m args c cc own nL D κ a A kc ks) {u : Nat} (hd : decode cc pc = .ok (.iand, 1)) (h : u < 128) (k : z_G p l e R s m args below meth c nL D κ a A kc ks Q σ lv (pc + 1) (.int (zI ((u % 2 : Nat) : Int)) :: st)) : z_G p l e R s m args below meth c nL D κ a A kc ks Q σ lv pc (.int (zI 1) :: .int (zI (u : Int)) :: st) :=
  fun ls H locs hl hP hS => lv_iand X.1.1 X.1.2.1 hd (by rw [zb_and u h]; exact k ls H locs hl hP hS)
theorem r_ishl {p : Program} {l : Launch} {e : Env} {R : Room} {s : State} {m : MethodId} {args : Array Value} {below : List Frame} {meth : Method} {c : Code} {cc : ByteArray} {own : String} {nL : Nat} {D : va_G} {κ : Nat → ClassId} {a : Nat → Nat} {A : Nat → Prop} {kc ks : Nat} {Q : State → Prop} {σ : zSt} {lv : List (Option Value)} {pc : Nat} {st : List Value} (X : z_X p R s m args c cc own nL D κ a A kc ks) {d : Nat} (hd : decode cc pc = .ok (.ishl, 1)) (h : d < 7) (k : z_G p l e R s m args below meth c nL D κ a A kc ks Q σ lv (pc + 1) (.int (zI ((2 ^ d : Nat) : Int)) :: st)) : z_G p l e R s m args below meth c nL D κ a A kc ks Q σ lv pc (.int (zI (d : Int)) :: .int (zI 1) :: st) :=
  fun ls H locs hl hP hS => lv_ishl X.1.1 X.1.2.1 hd (by rw [zb_shl d h]; exact k ls H locs hl hP hS)
theorem r_ior {p : Program} {l : Launch} {e : Env} {R : Room} {s : State} {m : MethodId} {args : Array Value} {below : List Frame} {meth : Method} {c : Code} {cc : ByteArray} {own : String} {nL : Nat} {D : va_G} {κ : Nat → ClassId} {a : Nat → Nat} {A : Nat → Prop} {kc ks : Nat} {Q : State → Prop} {σ : zSt} {lv : List (Option Value)} {pc : Nat} {st : List Value} (X : z_X p R s m args c cc own nL D κ a A kc ks) {u d : Nat} (hd : decode cc pc = .ok (.ior, 1)) (h : u < 128 ∧ d < 7 ∧ u / 2 ^ d % 2 = 0) (k : z_G p l e R s m args below meth c nL D κ a A kc ks Q σ lv (pc + 1) (.int (zI ((u + 2 ^ d : Nat) : Int)) :: st)) : z_G p l e R s m args below meth c nL D κ a A kc ks Q σ lv pc (.int (zI ((2 ^ d : Nat) : Int)) :: .int (zI (u : Int)) :: st) :=
  fun ls H locs hl hP hS => lv_ior X.1.1 X.1.2.1 hd (by rw [zb_or u h.1 d h.2.1 h.2.2]; exact k ls H locs hl hP hS)
noncomputable def stp (V : zV) (p : Int) (gt : Nat → Int) (t : Nat) (d : Int) : Int := if p = 0 then 0 else if vstep V p (gt t) d ≤ V (6 + 2 * vw V t) * vc V p then vstep V p (gt t) d else -1
def N0 (V : zV) (p : Int) (gt : Nat → Int) (i : Nat) (di : Int) (t : Nat) (d : Int) : Prop := p ≠ 0 ∧ vnear V p (gt i) di (gt t) d < 2 * vc V p * V 2
abbrev pIx (i : Nat) (di : Int) (t : Nat) (d : Int) : Int := (((i : Int) * 7 + di) * 6 + (t : Int)) * 7 + d
def pOK (σ : zSt) (V : zV) (p : Int) (gt : Nat → Int) : Prop := ∀ (i t : Nat) (di d : Int), i < vN V → t < vN V → 0 ≤ di ∧ di < 7 → 0 ≤ d ∧ d < 7 → (σ 79 (pIx i di t d) = 0 ∧ p ≠ 0) ∨ (σ 79 (pIx i di t d) = 1 ∧ ¬ N0 V p gt i di t d) ∨ (σ 79 (pIx i di t d) = 2 ∧ N0 V p gt i di t d)
def cEv (σ : zSt) (V : zV) (p : Int) (gt : Nat → Int) : Prop := σ 72 5 = (vN V : Int) ∧ (∀ (t : Nat) (d : Int), t < vN V → 0 ≤ d → d < vn V p → σ 78 ((t : Int) * 7 + d) = stp V p gt t d) ∧ pOK σ V p gt ∧ (p ≠ 0 → σ 72 11 = V 2 ∧ ∀ t : Nat, t < vN V → (σ 75 (t : Int) = vx V (p - 1) (gt t) ∧ σ 76 (t : Int) = vy V (p - 1) (gt t)) ∧ 0 ≤ gt t ∧ gt t < 7)
theorem cEv.of {σ σ1 : zSt} {V : zV} {p : Int} {gt : Nat → Int} (h : cEv σ V p gt) (e5 : σ1 72 5 = σ 72 5) (e11 : σ1 72 11 = σ 72 11) (e78 : σ1 78 = σ 78) (e75 : σ1 75 = σ 75) (e76 : σ1 76 = σ 76) (hp : pOK σ1 V p gt) : cEv σ1 V p gt := by
  obtain ⟨a, b, _, d⟩ := h
  refine ⟨e5.trans a, fun t x => by rw [e78]; exact b t x, hp, fun q => ?_⟩
  rw [e11, e75, e76]
  exact d q
theorem pOK.of {σ σ1 : zSt} {V : zV} {p : Int} {gt : Nat → Int} (h : pOK σ V p gt) (e : σ1 79 = σ 79) : pOK σ1 V p gt := by unfold pOK; rw [e]; exact h
theorem pOK.set {σ : zSt} {V : zV} {p : Int} {gt : Nat → Int} (h : pOK σ V p gt) (hN : vN V ≤ 6) {i t : Nat} {di d v : Int} (hi : i < vN V) (ht : t < vN V) (hdi : 0 ≤ di ∧ di < 7) (hd : 0 ≤ d ∧ d < 7) (hv : (v = 1 ∧ ¬ N0 V p gt i di t d) ∨ (v = 2 ∧ N0 V p gt i di t d)) : pOK (z_up σ 79 (pIx i di t d) v) V p gt := by
  intro i' t' di' d' hi' ht' hdi' hd'
  by_cases e : pIx i' di' t' d' = pIx i di t d
  · obtain ⟨q1, e1⟩ := mix7 e hd' hd
    obtain ⟨q2, e2'⟩ := mix6 q1 (by omega) (by omega)
    obtain ⟨q3, e3⟩ := mix7 q2 hdi' hdi
    have e2 : t' = t := by omega
    have e4 : i' = i := by omega
    rw [e1, e2, e3, e4, z_up_s]
    exact Or.inr hv
  · rw [z_up_j e]
    exact h i' t' di' d' hi' ht' hdi' hd'

set_option maxRecDepth 100000 in
set_option maxHeartbeats 4000000 in
theorem c_X2_isClear (l : Launch) {D : va_G} {κ : Nat → ClassId} {a : Nat → Nat} {A : Nat → Prop} (hA : z_aD a A) (σ : zSt) (K : Nat) (hK : K < 5) (t : Nat) (d : Int) (tk gt : Nat → Int) (V : zV) (hV : v_ok V) (hC : cSee σ V) (hKV : (K : Int) < V 1) (hEv : cEv σ V (K : Int) gt) (ht : t < vN V) (htk : ∀ i : Nat, i < t → σ 77 (i : Int) = tk i ∧ 0 ≤ tk i ∧ tk i < vn V (K : Int)) (hd : 0 ≤ d ∧ d < vn V (K : Int)) : z_Tp l D κ a A yX2_isClear cX2_isClear 8 (some .boolean) 2 [.ref (a 72), .ref (a (1 + 4 + 4 * K)), .int (zI (t : Int)), .int (zI d)] σ (fun z σ' => (∀ c : Nat, c ≠ 79 → σ' c = σ c) ∧ pOK σ' V (K : Int) gt ∧ (z = 0 ∨ z = 1) ∧ (z = 1 ↔ ∀ i : Nat, i < t → ¬ N0 V (K : Int) gt i (tk i) t d)) := by
  refine z_Tp_of (cc := cX2_isClear) (maxL := 8) (ret := (some .boolean)) (own := RX2) (lv0 := [some (.ref (a 72)), some (.ref (a (1 + 4 + 4 * K))), some (.int (zI (t : Int))), some (.int (zI d)), none, none, none, none]) hA (by decide) rfl (Nat.le_of_ble_eq_true rfl) rfl ?_
  intro pg e s mm below meth c X M
  have hq := z_pic.mk (b := 1) (k := K) (Or.inl rfl) hK
  have hne0 : (1 + 4 + 4 * K) ≠ 79 := by omega
  have hne1 : (1 + 4 + 4 * K) + 1 ≠ 79 := by omega
  have hne2 : (1 + 4 + 4 * K) + 2 ≠ 79 := by omega
  have hpk := hC.2.2 K hK
  have hcnt := hpk.2.1 hKV
  have hcc := vn_in hV (k := (K : Int)) (by omega)
  have hc1 := hV.2.2.2.2.1 (K : Int) (by omega) hKV
  have hv0 := hV.1.1
  have hv2 := hV.1.2.2.1
  have hN6 := vN_le hv0
  refine r_iconst X dX2_isClear_0 ?_
  refine r_istore4 X dX2_isClear_1 ?_
  have L : ∀ (fu : Nat) (i : Int) (j : Nat) (o5 o6 o7 : Option Value) (σ1 : zSt), ((t : Int) - i) < (fu : Int) → i = (j : Int) → j ≤ t → (∀ c : Nat, c ≠ 79 → σ1 c = σ c) → pOK σ1 V (K : Int) gt → (∀ i : Nat, i < j → ¬ N0 V (K : Int) gt i (tk i) t d) → z_G pg l e (z_rm 2) s mm ([.ref (a 72), .ref (a (1 + 4 + 4 * K)), .int (zI (t : Int)), .int (zI d)] : List Value).toArray below meth c 8 D κ a A 0 0 (MQ below (z_Qp D κ a A (fun z σ' => (∀ c : Nat, c ≠ 79 → σ' c = σ c) ∧ pOK σ' V (K : Int) gt ∧ (z = 0 ∨ z = 1) ∧ (z = 1 ↔ ∀ i : Nat, i < t → ¬ N0 V (K : Int) gt i (tk i) t d))) ([.ref (a 72), .ref (a (1 + 4 + 4 * K)), .int (zI (t : Int)), .int (zI d)] : List Value).toArray s 0 0 A) σ1 [some (.ref (a 72)), some (.ref (a (1 + 4 + 4 * K))), some (.int (zI (t : Int))), some (.int (zI d)), some (.int (zI i)), o5, o6, o7] 3 [] := by
    intro fu
    induction fu with
    | zero =>
      intro i j o5 o6 o7 σ1 hn hij h1 hF hpo hf
      omega
    | succ fu ihL =>
      intro i j o5 o6 o7 σ1 hn hij h1 hF hpo hf
      refine r_iload4 X dX2_isClear_3 ?_
      refine r_iload2 X dX2_isClear_5 ?_
      refine r_icmp_ge (tgt := 160) X dX2_isClear_6 ⟨⟨by omega, by omega⟩, by omega, by omega⟩ (fun h6 => ?_) (fun h6 => ?_)
      · refine r_iconst X dX2_isClear_160 ?_
        exact r_zretp X M dX2_isClear_161 (by omega) ⟨hF, hpo, by omega, ⟨fun _ i hi => hf i (by omega), fun _ => rfl⟩⟩
      · subst hij
        have htkj := htk j (by omega)
        have hpj : (σ1 79 (((↑j * 7 + tk j) * 6 + ↑t) * 7 + d) = 0 ∧ (K : Int) ≠ 0) ∨ (σ1 79 (((↑j * 7 + tk j) * 6 + ↑t) * 7 + d) = 1 ∧ ¬ N0 V (K : Int) gt j (tk j) t d) ∨ (σ1 79 (((↑j * 7 + tk j) * 6 + ↑t) * 7 + d) = 2 ∧ N0 V (K : Int) gt j (tk j) t d) := hpo j t (tk j) d (by omega) ht (by omega) (by omega)
        have hix : 0 ≤ ((↑j * 7 + tk j) * 6 + ↑t) * 7 + d ∧ ((↑j * 7 + tk j) * 6 + ↑t) * 7 + d < ((1764 : Nat) : Int) := by omega
        have ht6 : 0 ≤ (t : Int) ∧ (t : Int) < ((6 : Nat) : Int) := by omega
        have hj6 : 0 ≤ (j : Int) ∧ (j : Int) < ((6 : Nat) : Int) := by omega
        have hd7 : 0 ≤ d ∧ d < ((7 : Nat) : Int) := by omega
        have hj7 : 0 ≤ tk j ∧ tk j < ((7 : Nat) : Int) := by omega
        have hpr : 0 ≤ σ1 79 (((↑j * 7 + tk j) * 6 + ↑t) * 7 + d) ∧ σ1 79 (((↑j * 7 + tk j) * 6 + ↑t) * 7 + d) ≤ 2 := by rcases hpj with q | q | q <;> (have q1 := q.1; omega)
        refine r_aload0 X dX2_isClear_9 ?_
        refine r_get X 8 dX2_isClear_10 z_c72 in_X2 tw_177 (by decide) rfl rfl (by decide) ?_
        refine r_iload4 X dX2_isClear_13 ?_
        refine r_iald X dX2_isClear_15 z_c77 (by decide) hj6 ?_
        refine r_eqi (y := tk j) (by rw [hF 77 (by decide)]; exact htkj.1) ?_
        refine r_istore5 X dX2_isClear_16 ?_
        refine r_iload4 X dX2_isClear_18 ?_
        refine r_bipush X dX2_isClear_20 (by decide +kernel) ?_
        refine r_imul X dX2_isClear_22 ?_
        refine r_iload5 X dX2_isClear_23 ?_
        refine r_iadd X dX2_isClear_25 ?_
        refine r_bipush X dX2_isClear_26 (by decide +kernel) ?_
        refine r_imul X dX2_isClear_28 ?_
        refine r_iload2 X dX2_isClear_29 ?_
        refine r_iadd X dX2_isClear_30 ?_
        refine r_bipush X dX2_isClear_31 (by decide +kernel) ?_
        refine r_imul X dX2_isClear_33 ?_
        refine r_iload3 X dX2_isClear_34 ?_
        refine r_iadd X dX2_isClear_35 ?_
        refine r_istore6 X dX2_isClear_36 ?_
        refine r_aload0 X dX2_isClear_38 ?_
        refine r_get X 10 dX2_isClear_39 z_c72 in_X2 tw_179 (by decide) rfl rfl (by decide) ?_
        refine r_iload6 X dX2_isClear_42 ?_
        refine r_iald X dX2_isClear_44 z_c79 (by decide) hix ?_
        refine r_if_ne (tgt := 141) X dX2_isClear_45 ⟨by omega, by omega⟩ (fun h45 => ?_) (fun h45 => ?_)
        · obtain ⟨v2, hv2, hv2r, hF2, hp2⟩ : ∃ v2 : Int, σ1 79 (((↑j * 7 + tk j) * 6 + ↑t) * 7 + d) = v2 ∧ ((v2 = 1 ∧ ¬ N0 V (K : Int) gt j (tk j) t d) ∨ (v2 = 2 ∧ N0 V (K : Int) gt j (tk j) t d)) ∧ (∀ c : Nat, c ≠ 79 → σ1 c = σ c) ∧ pOK (σ1) V (K : Int) gt := ⟨_, rfl, hpj.resolve_left (fun q => h45 q.1), hF, hpo⟩
          refine r_aload0 X dX2_isClear_141 ?_
          refine r_get X 10 dX2_isClear_142 z_c72 in_X2 tw_179 (by decide) rfl rfl (by decide) ?_
          refine r_iload6 X dX2_isClear_145 ?_
          refine r_iald X dX2_isClear_147 z_c79 (by decide) hix ?_
          refine r_eqi (y := v2) hv2 ?_
          refine r_iconst X dX2_isClear_148 ?_
          refine r_icmp_ne (tgt := 154) X dX2_isClear_149 ⟨⟨by omega, by omega⟩, by omega, by omega⟩ (fun h149 => ?_) (fun h149 => ?_)
          · have hN2 : ¬ N0 V (K : Int) gt j (tk j) t d := by rcases hv2r with q | q; exact q.2; omega
            refine r_iinc4 X dX2_isClear_154 ?_
            refine r_goto (tgt := 3) X dX2_isClear_157 (by decide) ?_
            exact ihL ((j : Int) + 1) (j + 1) _ _ _ _ (by omega) (by omega) (by omega) hF2 hp2 (fun i hi => by by_cases e : i = j; (rw [e]; exact hN2); exact hf i (by omega))
          · have hN2 : N0 V (K : Int) gt j (tk j) t d := by rcases hv2r with q | q; omega; exact q.2
            refine r_iconst X dX2_isClear_152 ?_
            exact r_zretp X M dX2_isClear_153 (by omega) ⟨hF2, hp2, by omega, ⟨fun h => by omega, fun h => absurd hN2 (h j (by omega))⟩⟩
        · have hp0 : (K : Int) ≠ 0 := by omega
          have hs := hEv.2.2.2 hp0
          have hsj := hs.2 j (by omega)
          have hst := hs.2 t ht
          have b1 := vxy_in hV (k := (K : Int)) (d := d) (by omega) (by omega)
          have b2 := vxy_in hV (k := (K : Int)) (d := tk j) (by omega) (by omega)
          have b3 := vxy_in hV (k := (K : Int) - 1) (d := gt j) (by omega) hsj.2
          have b4 := vxy_in hV (k := (K : Int) - 1) (d := gt t) (by omega) hst.2
          have hq1 := hpk.2.2 d (by omega) (by omega)
          have hq2 := hpk.2.2 (tk j) (by omega) (by omega)
          have hnr := vnear_in hV (p := (K : Int)) (f1 := gt j) (d1 := tk j) (f2 := gt t) (d2 := d) (by omega) hsj.2 (by omega) hst.2 (by omega) (by omega)
          have hm2 := z_mul_b (a := V 2 * 2) (b := vc V (K : Int)) (A := 6) (B := 16) (by omega) (by omega) (by omega) (by omega)
          have hmc : V 2 * 2 * vc V (K : Int) = 2 * vc V (K : Int) * V 2 := by rw [Int.mul_comm (V 2) 2, Int.mul_assoc, Int.mul_comm (V 2), ← Int.mul_assoc]
          have hnv : nr (2 * vc V (K : Int)) (vx V ((K : Int) - 1) (gt t) - vx V ((K : Int) - 1) (gt j)) (vy V ((K : Int) - 1) (gt t) - vy V ((K : Int) - 1) (gt j)) (vx V (K : Int) d - vx V (K : Int) (tk j)) (vy V (K : Int) d - vy V (K : Int) (tk j)) 1000000 (2 * vc V (K : Int) - 1).toNat = vnear V (K : Int) (gt j) (tk j) (gt t) d := by
            unfold vnear
            rw [← nr_neg]
            congr 1 <;> omega
          refine r_aload1 X dX2_isClear_48 ?_
          refine r_get X 4 dX2_isClear_49 (z_cPic hq) in_X0 tw_82 (Nat.lt_of_le_of_lt (Nat.le_add_right _ 3) (z_pic.lt hq)) rfl rfl (by decide) ?_
          refine r_eqi (y := vc V (K : Int)) (by rw [hF (1 + 4 + 4 * K) hne0]; first | exact hsj.1.1 | exact hsj.1.2 | exact hst.1.1 | exact hst.1.2 | exact hq1.1 | exact hq1.2.1 | exact hq2.1 | exact hq2.2.1 | exact hcnt | exact hs.1) ?_
          refine r_aload0 X dX2_isClear_52 ?_
          refine r_get X 6 dX2_isClear_53 z_c72 in_X2 tw_175 (by decide) rfl rfl (by decide) ?_
          refine r_iload2 X dX2_isClear_56 ?_
          refine r_iald X dX2_isClear_57 z_c75 (by decide) ht6 ?_
          refine r_eqi (y := vx V ((K : Int) - 1) (gt t)) (by rw [hF 75 (by decide)]; first | exact hsj.1.1 | exact hsj.1.2 | exact hst.1.1 | exact hst.1.2 | exact hq1.1 | exact hq1.2.1 | exact hq2.1 | exact hq2.2.1 | exact hcnt | exact hs.1) ?_
          refine r_aload0 X dX2_isClear_58 ?_
          refine r_get X 6 dX2_isClear_59 z_c72 in_X2 tw_175 (by decide) rfl rfl (by decide) ?_
          refine r_iload4 X dX2_isClear_62 ?_
          refine r_iald X dX2_isClear_64 z_c75 (by decide) hj6 ?_
          refine r_eqi (y := vx V ((K : Int) - 1) (gt j)) (by rw [hF 75 (by decide)]; first | exact hsj.1.1 | exact hsj.1.2 | exact hst.1.1 | exact hst.1.2 | exact hq1.1 | exact hq1.2.1 | exact hq2.1 | exact hq2.2.1 | exact hcnt | exact hs.1) ?_
          refine r_isub X dX2_isClear_65 ?_
          refine r_aload0 X dX2_isClear_66 ?_
          refine r_get X 7 dX2_isClear_67 z_c72 in_X2 tw_176 (by decide) rfl rfl (by decide) ?_
          refine r_iload2 X dX2_isClear_70 ?_
          refine r_iald X dX2_isClear_71 z_c76 (by decide) ht6 ?_
          refine r_eqi (y := vy V ((K : Int) - 1) (gt t)) (by rw [hF 76 (by decide)]; first | exact hsj.1.1 | exact hsj.1.2 | exact hst.1.1 | exact hst.1.2 | exact hq1.1 | exact hq1.2.1 | exact hq2.1 | exact hq2.2.1 | exact hcnt | exact hs.1) ?_
          refine r_aload0 X dX2_isClear_72 ?_
          refine r_get X 7 dX2_isClear_73 z_c72 in_X2 tw_176 (by decide) rfl rfl (by decide) ?_
          refine r_iload4 X dX2_isClear_76 ?_
          refine r_iald X dX2_isClear_78 z_c76 (by decide) hj6 ?_
          refine r_eqi (y := vy V ((K : Int) - 1) (gt j)) (by rw [hF 76 (by decide)]; first | exact hsj.1.1 | exact hsj.1.2 | exact hst.1.1 | exact hst.1.2 | exact hq1.1 | exact hq1.2.1 | exact hq2.1 | exact hq2.2.1 | exact hcnt | exact hs.1) ?_
          refine r_isub X dX2_isClear_79 ?_
          refine r_aload1 X dX2_isClear_80 ?_
          refine r_get X 0 dX2_isClear_81 (z_cPic hq) in_X0 tw_72 (Nat.lt_of_le_of_lt (Nat.le_add_right _ 3) (z_pic.lt hq)) rfl rfl (by decide) ?_
          refine r_iload3 X dX2_isClear_84 ?_
          refine r_iald X dX2_isClear_85 (z_cPic1 hq) (Nat.lt_of_le_of_lt (Nat.add_le_add_left (by decide : 1 ≤ 3) _) (z_pic.lt hq)) hd7 ?_
          refine r_eqi (y := vx V (K : Int) d) (by rw [hF ((1 + 4 + 4 * K) + 1) hne1]; first | exact hsj.1.1 | exact hsj.1.2 | exact hst.1.1 | exact hst.1.2 | exact hq1.1 | exact hq1.2.1 | exact hq2.1 | exact hq2.2.1 | exact hcnt | exact hs.1) ?_
          refine r_aload1 X dX2_isClear_86 ?_
          refine r_get X 0 dX2_isClear_87 (z_cPic hq) in_X0 tw_72 (Nat.lt_of_le_of_lt (Nat.le_add_right _ 3) (z_pic.lt hq)) rfl rfl (by decide) ?_
          refine r_iload5 X dX2_isClear_90 ?_
          refine r_iald X dX2_isClear_92 (z_cPic1 hq) (Nat.lt_of_le_of_lt (Nat.add_le_add_left (by decide : 1 ≤ 3) _) (z_pic.lt hq)) hj7 ?_
          refine r_eqi (y := vx V (K : Int) (tk j)) (by rw [hF ((1 + 4 + 4 * K) + 1) hne1]; first | exact hsj.1.1 | exact hsj.1.2 | exact hst.1.1 | exact hst.1.2 | exact hq1.1 | exact hq1.2.1 | exact hq2.1 | exact hq2.2.1 | exact hcnt | exact hs.1) ?_
          refine r_isub X dX2_isClear_93 ?_
          refine r_aload1 X dX2_isClear_94 ?_
          refine r_get X 1 dX2_isClear_95 (z_cPic hq) in_X0 tw_74 (Nat.lt_of_le_of_lt (Nat.le_add_right _ 3) (z_pic.lt hq)) rfl rfl (by decide) ?_
          refine r_iload3 X dX2_isClear_98 ?_
          refine r_iald X dX2_isClear_99 (z_cPic2 hq) (Nat.lt_of_le_of_lt (Nat.add_le_add_left (by decide : 2 ≤ 3) _) (z_pic.lt hq)) hd7 ?_
          refine r_eqi (y := vy V (K : Int) d) (by rw [hF ((1 + 4 + 4 * K) + 2) hne2]; first | exact hsj.1.1 | exact hsj.1.2 | exact hst.1.1 | exact hst.1.2 | exact hq1.1 | exact hq1.2.1 | exact hq2.1 | exact hq2.2.1 | exact hcnt | exact hs.1) ?_
          refine r_aload1 X dX2_isClear_100 ?_
          refine r_get X 1 dX2_isClear_101 (z_cPic hq) in_X0 tw_74 (Nat.lt_of_le_of_lt (Nat.le_add_right _ 3) (z_pic.lt hq)) rfl rfl (by decide) ?_
          refine r_iload5 X dX2_isClear_104 ?_
          refine r_iald X dX2_isClear_106 (z_cPic2 hq) (Nat.lt_of_le_of_lt (Nat.add_le_add_left (by decide : 2 ≤ 3) _) (z_pic.lt hq)) hj7 ?_
          refine r_eqi (y := vy V (K : Int) (tk j)) (by rw [hF ((1 + 4 + 4 * K) + 2) hne2]; first | exact hsj.1.1 | exact hsj.1.2 | exact hst.1.1 | exact hst.1.2 | exact hq1.1 | exact hq1.2.1 | exact hq2.1 | exact hq2.2.1 | exact hcnt | exact hs.1) ?_
          refine r_isub X dX2_isClear_107 ?_
          refine r_callSNi (n := 5) X (c_X5_leastStep l X.2.2.1 _ _ _ _ _ _ ⟨by omega, by omega⟩ ⟨by omega, by omega⟩ ⟨by omega, by omega⟩ ⟨by omega, by omega⟩ ⟨by omega, by omega⟩) dX2_isClear_108 tw_455 X.2.1.2.2.2.1 tw_454 tw_40 rfl (Nat.le_of_ble_eq_true rfl) ⟨by decide, by decide⟩ (by decide +kernel) rfl ?_
          refine r_eqi hnv ?_
          refine r_istore7 X dX2_isClear_111 ?_
          refine r_aload0 X dX2_isClear_113 ?_
          refine r_get X 10 dX2_isClear_114 z_c72 in_X2 tw_179 (by decide) rfl rfl (by decide) ?_
          refine r_iload6 X dX2_isClear_117 ?_
          refine r_iload7 X dX2_isClear_119 ?_
          refine r_aload0 X dX2_isClear_121 ?_
          refine r_get X 11 dX2_isClear_122 z_c72 in_X2 tw_180 (by decide) rfl rfl (by decide) ?_
          refine r_eqi (y := V 2) (by rw [hF 72 (by decide)]; first | exact hsj.1.1 | exact hsj.1.2 | exact hst.1.1 | exact hst.1.2 | exact hq1.1 | exact hq1.2.1 | exact hq2.1 | exact hq2.2.1 | exact hcnt | exact hs.1) ?_
          refine r_iconst X dX2_isClear_125 ?_
          refine r_imul X dX2_isClear_126 ?_
          refine r_aload1 X dX2_isClear_127 ?_
          refine r_get X 4 dX2_isClear_128 (z_cPic hq) in_X0 tw_82 (Nat.lt_of_le_of_lt (Nat.le_add_right _ 3) (z_pic.lt hq)) rfl rfl (by decide) ?_
          refine r_eqi (y := vc V (K : Int)) (by rw [hF (1 + 4 + 4 * K) hne0]; first | exact hsj.1.1 | exact hsj.1.2 | exact hst.1.1 | exact hst.1.2 | exact hq1.1 | exact hq1.2.1 | exact hq2.1 | exact hq2.2.1 | exact hcnt | exact hs.1) ?_
          refine r_imul X dX2_isClear_131 ?_
          refine r_icmp_ge (tgt := 139) X dX2_isClear_132 ⟨⟨by omega, by omega⟩, by omega, by omega⟩ (fun h132 => ?_) (fun h132 => ?_)
          · refine r_iconst X dX2_isClear_139 ?_
            refine r_iast X dX2_isClear_140 z_c79 (by decide) hix ?_
            obtain ⟨v2, hv2, hv2r, hF2, hp2⟩ : ∃ v2 : Int, (z_up σ1 79 (((↑j * 7 + tk j) * 6 + ↑t) * 7 + d) 1) 79 (((↑j * 7 + tk j) * 6 + ↑t) * 7 + d) = v2 ∧ ((v2 = 1 ∧ ¬ N0 V (K : Int) gt j (tk j) t d) ∨ (v2 = 2 ∧ N0 V (K : Int) gt j (tk j) t d)) ∧ (∀ c : Nat, c ≠ 79 → (z_up σ1 79 (((↑j * 7 + tk j) * 6 + ↑t) * 7 + d) 1) c = σ c) ∧ pOK ((z_up σ1 79 (((↑j * 7 + tk j) * 6 + ↑t) * 7 + d) 1)) V (K : Int) gt := ⟨1, z_up_s, Or.inl ⟨rfl, fun q => by have q2 := q.2; omega⟩, fun c hc => by rw [z_up_c hc]; exact hF c hc, hpo.set hN6 (by omega) ht (by omega) (by omega) (Or.inl ⟨rfl, fun q => by have q2 := q.2; omega⟩)⟩
            refine r_aload0 X dX2_isClear_141 ?_
            refine r_get X 10 dX2_isClear_142 z_c72 in_X2 tw_179 (by decide) rfl rfl (by decide) ?_
            refine r_iload6 X dX2_isClear_145 ?_
            refine r_iald X dX2_isClear_147 z_c79 (by decide) hix ?_
            refine r_eqi (y := v2) hv2 ?_
            refine r_iconst X dX2_isClear_148 ?_
            refine r_icmp_ne (tgt := 154) X dX2_isClear_149 ⟨⟨by omega, by omega⟩, by omega, by omega⟩ (fun h149 => ?_) (fun h149 => ?_)
            · have hN2 : ¬ N0 V (K : Int) gt j (tk j) t d := by rcases hv2r with q | q; exact q.2; omega
              refine r_iinc4 X dX2_isClear_154 ?_
              refine r_goto (tgt := 3) X dX2_isClear_157 (by decide) ?_
              exact ihL ((j : Int) + 1) (j + 1) _ _ _ _ (by omega) (by omega) (by omega) hF2 hp2 (fun i hi => by by_cases e : i = j; (rw [e]; exact hN2); exact hf i (by omega))
            · have hN2 : N0 V (K : Int) gt j (tk j) t d := by rcases hv2r with q | q; omega; exact q.2
              refine r_iconst X dX2_isClear_152 ?_
              exact r_zretp X M dX2_isClear_153 (by omega) ⟨hF2, hp2, by omega, ⟨fun h => by omega, fun h => absurd hN2 (h j (by omega))⟩⟩
          · refine r_iconst X dX2_isClear_135 ?_
            refine r_goto (tgt := 140) X dX2_isClear_136 (by decide) ?_
            refine r_iast X dX2_isClear_140 z_c79 (by decide) hix ?_
            obtain ⟨v2, hv2, hv2r, hF2, hp2⟩ : ∃ v2 : Int, (z_up σ1 79 (((↑j * 7 + tk j) * 6 + ↑t) * 7 + d) 2) 79 (((↑j * 7 + tk j) * 6 + ↑t) * 7 + d) = v2 ∧ ((v2 = 1 ∧ ¬ N0 V (K : Int) gt j (tk j) t d) ∨ (v2 = 2 ∧ N0 V (K : Int) gt j (tk j) t d)) ∧ (∀ c : Nat, c ≠ 79 → (z_up σ1 79 (((↑j * 7 + tk j) * 6 + ↑t) * 7 + d) 2) c = σ c) ∧ pOK ((z_up σ1 79 (((↑j * 7 + tk j) * 6 + ↑t) * 7 + d) 2)) V (K : Int) gt := ⟨2, z_up_s, Or.inr ⟨rfl, hp0, by omega⟩, fun c hc => by rw [z_up_c hc]; exact hF c hc, hpo.set hN6 (by omega) ht (by omega) (by omega) (Or.inr ⟨rfl, hp0, by omega⟩)⟩
            refine r_aload0 X dX2_isClear_141 ?_
            refine r_get X 10 dX2_isClear_142 z_c72 in_X2 tw_179 (by decide) rfl rfl (by decide) ?_
            refine r_iload6 X dX2_isClear_145 ?_
            refine r_iald X dX2_isClear_147 z_c79 (by decide) hix ?_
            refine r_eqi (y := v2) hv2 ?_
            refine r_iconst X dX2_isClear_148 ?_
            refine r_icmp_ne (tgt := 154) X dX2_isClear_149 ⟨⟨by omega, by omega⟩, by omega, by omega⟩ (fun h149 => ?_) (fun h149 => ?_)
            · have hN2 : ¬ N0 V (K : Int) gt j (tk j) t d := by rcases hv2r with q | q; exact q.2; omega
              refine r_iinc4 X dX2_isClear_154 ?_
              refine r_goto (tgt := 3) X dX2_isClear_157 (by decide) ?_
              exact ihL ((j : Int) + 1) (j + 1) _ _ _ _ (by omega) (by omega) (by omega) hF2 hp2 (fun i hi => by by_cases e : i = j; (rw [e]; exact hN2); exact hf i (by omega))
            · have hN2 : N0 V (K : Int) gt j (tk j) t d := by rcases hv2r with q | q; omega; exact q.2
              refine r_iconst X dX2_isClear_152 ?_
              exact r_zretp X M dX2_isClear_153 (by omega) ⟨hF2, hp2, by omega, ⟨fun h => by omega, fun h => absurd hN2 (h j (by omega))⟩⟩
  exact L 8 0 0 none none none σ (by omega) rfl (by omega) (fun _ _ => rfl) hEv.2.2.1 (fun i hi => by omega)

