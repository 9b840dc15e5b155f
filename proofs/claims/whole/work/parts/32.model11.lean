theorem zFD.up {σ σ' : zSt} {V : zV} (h : zFD σ σ' V) (hM : zModel σ V) : zMup σ σ' V := ⟨hM.of (h.1 81 (by decide)) (h.1 82 (by decide)) (h.1 83 (by decide)) (h.1 84 (by decide)), fun c hc => h.1 c (by omega), by rw [h.1 80 (by decide)], fun _ => h.2.1⟩
theorem zFD.set {σ σ' : zSt} {V : zV} (h : zFD σ σ' V) {k : Int} (h0 : 0 ≤ k) (h1 : k < V 1) : σ' 89 k = vfd V k := by
  have := (h.2.2 k.toNat (by omega)).1
  rwa [show ((k.toNat : Nat) : Int) = k by omega] at this
theorem zFD.gv {σ σ' : zSt} {V : zV} (h : zFD σ σ' V) {k m : Int} (h0 : 0 ≤ k) (h1 : k < V 1) (hf : vfd V k = 1) (m0 : 0 ≤ m) (m1 : m < V 0) (m2 : V (6 + (2 * m + 1)) = 0) : σ' 88 (6 * k + m) = sd V k m := by
  have hx := ((h.2.2 k.toNat (by omega)).2.2 hf).2.2 (vt V m) (vt_ok m0 m1 m2).1
  rwa [show ((k.toNat : Nat) : Int) = k by omega, (vt_ok m0 m1 m2).2] at hx

set_option maxRecDepth 100000 in
set_option maxHeartbeats 4000000 in
theorem c_X6_present (l : Launch) {D : va_G} {κ : Nat → ClassId} {a : Nat → Nat} {A : Nat → Prop} (hA : z_aD a A) (σ : zSt) (V : zV) (hV : v_ok V) (hM : zModel σ V) : z_Ti l D κ a A yX6_present cX6_present 3 (some .int) 1 [.ref (a 80)] σ ((vN V : Int)) (σ) := by
  refine z_Ti_of (cc := cX6_present) (maxL := 3) (ret := (some .int)) (own := RX6) (lv0 := [some (.ref (a 80)), none, none]) hA (by decide) rfl (Nat.le_of_ble_eq_true rfl) rfl ?_
  intro pg e s mm below meth c X M
  obtain ⟨⟨hv0, hv1, hv2, hv3, hv4, hv5⟩, hvm, hvb, hvk, hvc, hvd⟩ := id hV
  have e0 := hM.1 0 (by omega) (by omega)
  have e1 := hM.1 1 (by omega) (by omega)
  refine r_iconst X dX6_present_0 ?_
  refine r_istore1 X dX6_present_1 ?_
  refine r_iconst X dX6_present_2 ?_
  refine r_istore2 X dX6_present_3 ?_
  have L : ∀ (fu : Nat) (m n1 : Int), (V 0 - m) < (fu : Int) → 0 ≤ m → m ≤ V 0 → n1 = ((vWl V m.toNat).length : Int) → z_G pg l e (z_rm 1) s mm ([.ref (a 80)] : List Value).toArray below meth c 3 D κ a A 0 0 (MQ below (z_Qi D κ a A ((vN V : Int)) (σ)) ([.ref (a 80)] : List Value).toArray s 0 0 A) σ [some (.ref (a 80)), some (.int (zI n1)), some (.int (zI m))] 4 [] := by
    intro fu
    induction fu with
    | zero =>
      intro m n1 hn m0 m1 hn1
      omega
    | succ fu ihL =>
      intro m n1 hn m0 m1 hn1
      refine r_iload2 X dX6_present_4 ?_
      refine r_aload0 X dX6_present_5 ?_
      refine r_get X 0 dX6_present_6 z_c80 in_X6 tw_558 (by decide) rfl rfl (by decide) ?_
      refine r_iconst X dX6_present_9 ?_
      refine r_iald X dX6_present_10 z_c81 (by decide) ⟨by omega, by omega⟩ ?_
      refine r_eqi e0 ?_
      refine r_icmp_ge (tgt := 36) X dX6_present_11 ⟨⟨by omega, by omega⟩, by omega, by omega⟩ (fun h11 => ?_) (fun h11 => ?_)
      · refine r_iload1 X dX6_present_36 ?_
        exact r_iret X M dX6_present_37 (by rw [hn1, show m = V 0 by omega]; rfl) rfl
      · have q1 := hvm m (by omega) (by omega)
        rw [show 7 + 2 * m = 6 + (2 * m + 1) by omega] at q1
        have hil := hM.2.1 (2 * m + 1) (by omega) (by omega)
        have hsz : vWl V (m + 1).toNat = vWl V m.toNat ++ (if V (6 + (2 * m + 1)) = 0 then [m.toNat] else []) := by
          rw [show (m + 1).toNat = m.toNat + 1 by omega, vWl_s, show ((m.toNat : Nat) : Int) = m by omega]
        refine r_iload1 X dX6_present_14 ?_
        refine r_aload0 X dX6_present_15 ?_
        refine r_iload2 X dX6_present_16 ?_
        refine r_callVi (n := 1) X (c_X6_isIll l X.2.2.1 _ _ ⟨by omega, by omega⟩ ⟨by omega, by omega⟩) dX6_present_17 tw_711 tw_713 tw_23 tw_46 tw_714 z_c80 (by decide) rfl rfl (Nat.le_of_ble_eq_true rfl) ⟨by decide, by decide⟩ (by decide +kernel) rfl ?_
        refine r_if_eqB (tgt := 27) X dX6_present_20 (fun h20 => ?_) (fun h20 => ?_)
        · refine r_iconst X dX6_present_27 ?_
          refine r_iadd X dX6_present_28 ?_
          refine r_istore1 X dX6_present_29 ?_
          refine r_iinc2 X dX6_present_30 ?_
          refine r_goto (tgt := 4) X dX6_present_33 (by decide) ?_
          first
          | exact ihL (m + 1) _ (by omega) (by omega) (by omega) (by rw [hsz, if_neg (by omega), List.append_nil]; omega)
          | exact ihL (m + 1) _ (by omega) (by omega) (by omega) (by rw [hsz, if_pos (by omega), List.length_append]; simp; omega)
        · refine r_iconst X dX6_present_23 ?_
          refine r_goto (tgt := 28) X dX6_present_24 (by decide) ?_
          refine r_iadd X dX6_present_28 ?_
          refine r_istore1 X dX6_present_29 ?_
          refine r_iinc2 X dX6_present_30 ?_
          refine r_goto (tgt := 4) X dX6_present_33 (by decide) ?_
          first
          | exact ihL (m + 1) _ (by omega) (by omega) (by omega) (by rw [hsz, if_neg (by omega), List.append_nil]; omega)
          | exact ihL (m + 1) _ (by omega) (by omega) (by omega) (by rw [hsz, if_pos (by omega), List.length_append]; simp; omega)
  exact L 8 0 0 (by omega) (by omega) (by omega) rfl

set_option maxRecDepth 100000 in
set_option maxHeartbeats 4000000 in
theorem c_X6_divisor (l : Launch) {D : va_G} {κ : Nat → ClassId} {a : Nat → Nat} {A : Nat → Prop} (hA : z_aD a A) (σ : zSt) (x y : Nat) (hx : x < 1000000) (hy : y < 1000000) : z_Ti l D κ a A yX6_divisor cX6_divisor 5 (some .int) 0 [.int (zI (x : Int)), .int (zI (y : Int))] σ (((Nat.gcd x y : Nat) : Int)) (σ) := by
  refine z_Ti_of (cc := cX6_divisor) (maxL := 5) (ret := (some .int)) (own := RX6) (lv0 := [some (.int (zI (x : Int))), some (.int (zI (y : Int))), none, none, none]) hA (by decide) rfl (Nat.le_of_ble_eq_true rfl) rfl ?_
  intro pg e s mm below meth c X M
  refine r_iload0 X dX6_divisor_0 ?_
  refine r_istore2 X dX6_divisor_1 ?_
  refine r_iload1 X dX6_divisor_2 ?_
  refine r_istore3 X dX6_divisor_3 ?_
  have L : ∀ (fu : Nat) (u v : Nat) (o4 : Option Value), ((v : Int)) < (fu : Int) → u < 1000000 → v < 1000000 → Nat.gcd u v = Nat.gcd x y → z_G pg l e (z_rm 0) s mm ([.int (zI (x : Int)), .int (zI (y : Int))] : List Value).toArray below meth c 5 D κ a A 0 0 (MQ below (z_Qi D κ a A (((Nat.gcd x y : Nat) : Int)) (σ)) ([.int (zI (x : Int)), .int (zI (y : Int))] : List Value).toArray s 0 0 A) σ [some (.int (zI (x : Int))), some (.int (zI (y : Int))), some (.int (zI (u : Int))), some (.int (zI (v : Int))), o4] 4 [] := by
    intro fu
    induction fu with
    | zero =>
      intro u v o4 hn hu hv hg
      omega
    | succ fu ihL =>
      intro u v o4 hn hu hv hg
      refine r_iload3 X dX6_divisor_4 ?_
      refine r_if_eq (tgt := 21) X dX6_divisor_5 ⟨by omega, by omega⟩ (fun h5 => ?_) (fun h5 => ?_)
      · refine r_iload2 X dX6_divisor_21 ?_
        exact r_iret X M dX6_divisor_22 (by rw [← hg, show v = 0 by omega, Nat.gcd_zero_right]) rfl
      · refine r_iload2 X dX6_divisor_8 ?_
        refine r_iload3 X dX6_divisor_9 ?_
        refine r_irem X dX6_divisor_10 ⟨⟨by omega, by omega⟩, by omega, by omega⟩ ?_
        refine r_istore4 X dX6_divisor_11 ?_
        refine r_iload3 X dX6_divisor_13 ?_
        refine r_istore2 X dX6_divisor_14 ?_
        refine r_iload4 X dX6_divisor_15 ?_
        refine r_istore3 X dX6_divisor_17 ?_
        refine r_goto (tgt := 4) X dX6_divisor_18 (by decide) ?_
        exact ihL v (u % v) _ (by have := Nat.mod_lt u (show 0 < v by omega); omega) hv (by have := Nat.mod_lt u (show 0 < v by omega); omega) (by rw [← hg, Nat.gcd_comm u v, Nat.gcd_rec v u, Nat.gcd_comm])
  exact L (y + 1) x y none (by omega) hx hy rfl

set_option maxRecDepth 100000 in
set_option maxHeartbeats 4000000 in
theorem c_X6_set (l : Launch) {D : va_G} {κ : Nat → ClassId} {a : Nat → Nat} {A : Nat → Prop} (hA : z_aD a A) (σ : zSt) (k m : Int) (hk : z_in k) (hm : z_in m) (V : zV) (hV : v_ok V) (hM : zModel σ V) (hW : zWho σ) : z_Tp l D κ a A yX6_set cX6_set 3 (some .int) 6 [.ref (a 80), .int (zI k), .int (zI m)] σ (fun z σ' => z = s_set V k m ∧ zMup σ σ' V) := by
  refine z_Tp_of (cc := cX6_set) (maxL := 3) (ret := (some .int)) (own := RX6) (lv0 := [some (.ref (a 80)), some (.int (zI k)), some (.int (zI m))]) hA (by decide) rfl (Nat.le_of_ble_eq_true rfl) rfl ?_
  intro pg e s mm below meth c X M
  obtain ⟨⟨hv0, hv1, hv2, hv3, hv4, hv5⟩, hvm, hvb, hvk, hvc, hvd⟩ := id hV
  have e0 := hM.1 0 (by omega) (by omega)
  have e1 := hM.1 1 (by omega) (by omega)
  refine r_aload0 X dX6_set_0 ?_
  refine r_iload1 X dX6_set_1 ?_
  refine r_callVi (n := 1) X (c_X6_isPicture l X.2.2.1 _ _ ⟨by omega, by omega⟩ ⟨by omega, by omega⟩) dX6_set_2 tw_643 tw_645 tw_17 tw_46 tw_646 z_c80 (by decide) rfl rfl (Nat.le_of_ble_eq_true rfl) ⟨by decide, by decide⟩ (by decide +kernel) rfl ?_
  refine r_if_eqB (tgt := 16) X dX6_set_5 (fun h5 => ?_) (fun h5 => ?_)
  · refine r_iconst X dX6_set_16 ?_
    exact r_iretp X M dX6_set_17 ⟨by unfold s_set; (repeat' split) <;> omega, by first | exact h1.up hM | exact zMup.refl hM⟩
  · refine r_aload0 X dX6_set_8 ?_
    refine r_iload2 X dX6_set_9 ?_
    refine r_callVi (n := 1) X (c_X6_isMarcher l X.2.2.1 _ _ ⟨by omega, by omega⟩ ⟨by omega, by omega⟩) dX6_set_10 tw_626 tw_628 tw_16 tw_46 tw_629 z_c80 (by decide) rfl rfl (Nat.le_of_ble_eq_true rfl) ⟨by decide, by decide⟩ (by decide +kernel) rfl ?_
    refine r_if_neB (tgt := 18) X dX6_set_13 (fun h13 => ?_) (fun h13 => ?_)
    · have q1 := hvm m (by omega) (by omega)
      rw [show 7 + 2 * m = 6 + (2 * m + 1) by omega] at q1
      have hil := hM.2.1 (2 * m + 1) (by omega) (by omega)
      refine r_aload0 X dX6_set_18 ?_
      refine r_iload2 X dX6_set_19 ?_
      refine r_callVi (n := 1) X (c_X6_isIll l X.2.2.1 _ _ ⟨by omega, by omega⟩ ⟨by omega, by omega⟩) dX6_set_20 tw_711 tw_713 tw_23 tw_46 tw_714 z_c80 (by decide) rfl rfl (Nat.le_of_ble_eq_true rfl) ⟨by decide, by decide⟩ (by decide +kernel) rfl ?_
      refine r_if_eqB (tgt := 29) X dX6_set_23 (fun h23 => ?_) (fun h23 => ?_)
      · refine r_aload0 X dX6_set_29 ?_
        refine r_callVq (n := 0) X (c_X6_findAll l X.2.2.1 _ V hV hM hW) dX6_set_30 tw_715 tw_717 tw_24 tw_46 tw_718 z_c80 (by decide) rfl rfl (Nat.le_of_ble_eq_true rfl) ⟨by decide, by decide⟩ (by decide +kernel) rfl (fun σ1 h1 => ?_)
        have h01 := vfd_01 hV (k := k) (by omega)
        refine r_aload0 X dX6_set_33 ?_
        refine r_get X 10 dX6_set_34 z_c80 in_X6 tw_568 (by decide) rfl rfl (by decide) ?_
        refine r_iload1 X dX6_set_37 ?_
        refine r_zald X dX6_set_38 z_c89 (by decide) ⟨by omega, by omega⟩ ?_
        refine r_eqi (h1.set (k := k) (by omega) (by omega)) ?_
        refine r_if_eq (tgt := 56) X dX6_set_39 ⟨by omega, by omega⟩ (fun h39 => ?_) (fun h39 => ?_)
        · refine r_bipush X dX6_set_56 (by decide +kernel) ?_
          exact r_iretp X M dX6_set_58 ⟨by unfold s_set; (repeat' split) <;> omega, by first | exact h1.up hM | exact zMup.refl hM⟩
        · have hsd := sd_in hV (k := k) (m := m) (by omega) (by omega) (by omega) (by omega) (by omega)
          refine r_aload0 X dX6_set_42 ?_
          refine r_get X 9 dX6_set_43 z_c80 in_X6 tw_567 (by decide) rfl rfl (by decide) ?_
          refine r_bipush X dX6_set_46 (by decide +kernel) ?_
          refine r_iload1 X dX6_set_48 ?_
          refine r_imul X dX6_set_49 ?_
          refine r_iload2 X dX6_set_50 ?_
          refine r_iadd X dX6_set_51 ?_
          refine r_iald X dX6_set_52 z_c88 (by decide) ⟨by omega, by omega⟩ ?_
          refine r_eqi (h1.gv (k := k) (m := m) (by omega) (by omega) (by omega) (by omega) (by omega) (by omega)) ?_
          refine r_goto (tgt := 58) X dX6_set_53 (by decide) ?_
          exact r_iretp X M dX6_set_58 ⟨by unfold s_set; (repeat' split) <;> omega, by first | exact h1.up hM | exact zMup.refl hM⟩
      · refine r_bipush X dX6_set_26 (by decide +kernel) ?_
        exact r_iretp X M dX6_set_28 ⟨by unfold s_set; (repeat' split) <;> omega, by first | exact h1.up hM | exact zMup.refl hM⟩
    · refine r_iconst X dX6_set_16 ?_
      exact r_iretp X M dX6_set_17 ⟨by unfold s_set; (repeat' split) <;> omega, by first | exact h1.up hM | exact zMup.refl hM⟩

set_option maxRecDepth 100000 in
set_option maxHeartbeats 4000000 in
theorem c_X6_steps (l : Launch) {D : va_G} {κ : Nat → ClassId} {a : Nat → Nat} {A : Nat → Prop} (hA : z_aD a A) (σ : zSt) (k w : Int) (hk : z_in k) (hw : z_in w) (V : zV) (hV : v_ok V) (hM : zModel σ V) (hW : zWho σ) : z_Tp l D κ a A yX6_steps cX6_steps 3 (some .int) 6 [.ref (a 80), .int (zI k), .int (zI w)] σ (fun z σ' => z = s_steps V k w ∧ zMup σ σ' V) := by
  refine z_Tp_of (cc := cX6_steps) (maxL := 3) (ret := (some .int)) (own := RX6) (lv0 := [some (.ref (a 80)), some (.int (zI k)), some (.int (zI w))]) hA (by decide) rfl (Nat.le_of_ble_eq_true rfl) rfl ?_
  intro pg e s mm below meth c X M
  obtain ⟨⟨hv0, hv1, hv2, hv3, hv4, hv5⟩, hvm, hvb, hvk, hvc, hvd⟩ := id hV
  have e0 := hM.1 0 (by omega) (by omega)
  have e1 := hM.1 1 (by omega) (by omega)
  refine r_aload0 X dX6_steps_0 ?_
  refine r_iload1 X dX6_steps_1 ?_
  refine r_callVi (n := 1) X (c_X6_isPicture l X.2.2.1 _ _ ⟨by omega, by omega⟩ ⟨by omega, by omega⟩) dX6_steps_2 tw_643 tw_645 tw_17 tw_46 tw_646 z_c80 (by decide) rfl rfl (Nat.le_of_ble_eq_true rfl) ⟨by decide, by decide⟩ (by decide +kernel) rfl ?_
  refine r_if_eqB (tgt := 20) X dX6_steps_5 (fun h5 => ?_) (fun h5 => ?_)
  · refine r_iconst X dX6_steps_20 ?_
    exact r_iretp X M dX6_steps_21 ⟨by unfold s_steps; (repeat' split) <;> omega, by first | exact h1.up hM | exact zMup.refl hM⟩
  · refine r_iload2 X dX6_steps_8 ?_
    refine r_i2l X dX6_steps_9 ⟨by omega, by omega⟩ ?_
    refine r_lconst X dX6_steps_10 0 (by decide +kernel) ?_
    refine r_ldc2 X dX6_steps_11 2 (by decide +kernel) tw_706 ?_
    refine r_callSi (n := 3) X (c_X6_in l X.2.2.1 _ _ _ _ ⟨by omega, by omega⟩ ⟨by omega, by omega⟩ ⟨by omega, by omega⟩) dX6_steps_14 tw_619 tw_620 tw_46 tw_621 rfl (Nat.le_of_ble_eq_true rfl) ⟨by decide, by decide⟩ (by decide +kernel) rfl ?_
    refine r_if_neB (tgt := 22) X dX6_steps_17 (fun h17 => ?_) (fun h17 => ?_)
    · refine r_aload0 X dX6_steps_22 ?_
      refine r_callVq (n := 0) X (c_X6_findAll l X.2.2.1 _ V hV hM hW) dX6_steps_23 tw_715 tw_717 tw_24 tw_46 tw_718 z_c80 (by decide) rfl rfl (Nat.le_of_ble_eq_true rfl) ⟨by decide, by decide⟩ (by decide +kernel) rfl (fun σ1 h1 => ?_)
      have h01 := vfd_01 hV (k := k) (by omega)
      refine r_aload0 X dX6_steps_26 ?_
      refine r_get X 10 dX6_steps_27 z_c80 in_X6 tw_568 (by decide) rfl rfl (by decide) ?_
      refine r_iload1 X dX6_steps_30 ?_
      refine r_zald X dX6_steps_31 z_c89 (by decide) ⟨by omega, by omega⟩ ?_
      refine r_eqi (h1.set (k := k) (by omega) (by omega)) ?_
      refine r_if_ne (tgt := 38) X dX6_steps_32 ⟨by omega, by omega⟩ (fun h32 => ?_) (fun h32 => ?_)
      · have hac := (h1.2.2 k.toNat (by omega)).2.2 (show vfd V k = 1 by omega)
        rw [show ((k.toNat : Nat) : Int) = k by omega] at hac
        refine r_iload2 X dX6_steps_38 ?_
        refine r_if_ne (tgt := 51) X dX6_steps_39 ⟨by omega, by omega⟩ (fun h39 => ?_) (fun h39 => ?_)
        · refine r_iload2 X dX6_steps_51 ?_
          refine r_iconst X dX6_steps_52 ?_
          refine r_icmp_ne (tgt := 65) X dX6_steps_53 ⟨⟨by omega, by omega⟩, by omega, by omega⟩ (fun h53 => ?_) (fun h53 => ?_)
          · refine r_aload0 X dX6_steps_65 ?_
            refine r_iload1 X dX6_steps_66 ?_
            refine r_callVi (n := 1) X (c_X6_dotMany l X.2.2.1 _ _ ⟨by omega, by omega⟩) dX6_steps_67 tw_662 tw_664 tw_20 tw_46 tw_665 z_c80 (by decide) rfl rfl (Nat.le_of_ble_eq_true rfl) ⟨by decide, by decide⟩ (by decide +kernel) rfl ?_
            refine r_eqi (y := vn V k) ((h1.up hM).1.2.2.1 _ (by omega) (by omega)) ?_
            refine r_aload0 X dX6_steps_70 ?_
            refine r_callVi (n := 0) X (c_X6_present l X.2.2.1 _ V hV (h1.up hM).1) dX6_steps_71 tw_762 tw_764 tw_33 tw_46 tw_765 z_c80 (by decide) rfl rfl (Nat.le_of_ble_eq_true rfl) ⟨by decide, by decide⟩ (by decide +kernel) rfl ?_
            refine r_isub X dX6_steps_74 ?_
            exact r_iretp X M dX6_steps_75 ⟨by unfold s_steps; (repeat' split) <;> omega, by first | exact h1.up hM | exact zMup.refl hM⟩
          · refine r_aload0 X dX6_steps_56 ?_
            refine r_get X 12 dX6_steps_57 z_c80 in_X6 tw_570 (by decide) rfl rfl (by decide) ?_
            refine r_iload1 X dX6_steps_60 ?_
            refine r_iald X dX6_steps_61 z_c91 (by decide) ⟨by omega, by omega⟩ ?_
            refine r_eqi hac.2.1 ?_
            refine r_goto (tgt := 75) X dX6_steps_62 (by decide) ?_
            exact r_iretp X M dX6_steps_75 ⟨by unfold s_steps; (repeat' split) <;> omega, by first | exact h1.up hM | exact zMup.refl hM⟩
        · refine r_aload0 X dX6_steps_42 ?_
          refine r_get X 11 dX6_steps_43 z_c80 in_X6 tw_569 (by decide) rfl rfl (by decide) ?_
          refine r_iload1 X dX6_steps_46 ?_
          refine r_iald X dX6_steps_47 z_c90 (by decide) ⟨by omega, by omega⟩ ?_
          refine r_eqi hac.1 ?_
          refine r_goto (tgt := 75) X dX6_steps_48 (by decide) ?_
          exact r_iretp X M dX6_steps_75 ⟨by unfold s_steps; (repeat' split) <;> omega, by first | exact h1.up hM | exact zMup.refl hM⟩
      · refine r_bipush X dX6_steps_35 (by decide +kernel) ?_
        exact r_iretp X M dX6_steps_37 ⟨by unfold s_steps; (repeat' split) <;> omega, by first | exact h1.up hM | exact zMup.refl hM⟩
    · refine r_iconst X dX6_steps_20 ?_
      exact r_iretp X M dX6_steps_21 ⟨by unfold s_steps; (repeat' split) <;> omega, by first | exact h1.up hM | exact zMup.refl hM⟩

set_option maxRecDepth 100000 in
set_option maxHeartbeats 4000000 in
theorem c_X6_late (l : Launch) {D : va_G} {κ : Nat → ClassId} {a : Nat → Nat} {A : Nat → Prop} (hA : z_aD a A) (σ : zSt) (k m : Int) (hk : z_in k) (hm : z_in m) (V : zV) (hV : v_ok V) (hM : zModel σ V) (hW : zWho σ) : z_Tp l D κ a A yX6_late cX6_late 4 (some .int) 6 [.ref (a 80), .int (zI k), .int (zI m)] σ (fun z σ' => z = s_late V k m ∧ zMup σ σ' V) := by
  refine z_Tp_of (cc := cX6_late) (maxL := 4) (ret := (some .int)) (own := RX6) (lv0 := [some (.ref (a 80)), some (.int (zI k)), some (.int (zI m)), none]) hA (by decide) rfl (Nat.le_of_ble_eq_true rfl) rfl ?_
  intro pg e s mm below meth c X M
  obtain ⟨⟨hv0, hv1, hv2, hv3, hv4, hv5⟩, hvm, hvb, hvk, hvc, hvd⟩ := id hV
  have e0 := hM.1 0 (by omega) (by omega)
  have e1 := hM.1 1 (by omega) (by omega)
  refine r_aload0 X dX6_late_0 ?_
  refine r_iload1 X dX6_late_1 ?_
  refine r_callVi (n := 1) X (c_X6_isPicture l X.2.2.1 _ _ ⟨by omega, by omega⟩ ⟨by omega, by omega⟩) dX6_late_2 tw_643 tw_645 tw_17 tw_46 tw_646 z_c80 (by decide) rfl rfl (Nat.le_of_ble_eq_true rfl) ⟨by decide, by decide⟩ (by decide +kernel) rfl ?_
  refine r_if_eqB (tgt := 16) X dX6_late_5 (fun h5 => ?_) (fun h5 => ?_)
  · refine r_iconst X dX6_late_16 ?_
    exact r_iretp X M dX6_late_17 ⟨by unfold s_late; (repeat' split) <;> omega, by first | exact h1.up hM | exact zMup.refl hM⟩
  · refine r_aload0 X dX6_late_8 ?_
    refine r_iload2 X dX6_late_9 ?_
    refine r_callVi (n := 1) X (c_X6_isMarcher l X.2.2.1 _ _ ⟨by omega, by omega⟩ ⟨by omega, by omega⟩) dX6_late_10 tw_626 tw_628 tw_16 tw_46 tw_629 z_c80 (by decide) rfl rfl (Nat.le_of_ble_eq_true rfl) ⟨by decide, by decide⟩ (by decide +kernel) rfl ?_
    refine r_if_neB (tgt := 18) X dX6_late_13 (fun h13 => ?_) (fun h13 => ?_)
    · have q1 := hvm m (by omega) (by omega)
      rw [show 7 + 2 * m = 6 + (2 * m + 1) by omega] at q1
      have hil := hM.2.1 (2 * m + 1) (by omega) (by omega)
      refine r_aload0 X dX6_late_18 ?_
      refine r_iload2 X dX6_late_19 ?_
      refine r_callVi (n := 1) X (c_X6_isIll l X.2.2.1 _ _ ⟨by omega, by omega⟩ ⟨by omega, by omega⟩) dX6_late_20 tw_711 tw_713 tw_23 tw_46 tw_714 z_c80 (by decide) rfl rfl (Nat.le_of_ble_eq_true rfl) ⟨by decide, by decide⟩ (by decide +kernel) rfl ?_
      refine r_if_eqB (tgt := 29) X dX6_late_23 (fun h23 => ?_) (fun h23 => ?_)
      · refine r_aload0 X dX6_late_29 ?_
        refine r_callVq (n := 0) X (c_X6_findAll l X.2.2.1 _ V hV hM hW) dX6_late_30 tw_715 tw_717 tw_24 tw_46 tw_718 z_c80 (by decide) rfl rfl (Nat.le_of_ble_eq_true rfl) ⟨by decide, by decide⟩ (by decide +kernel) rfl (fun σ1 h1 => ?_)
        have h01 := vfd_01 hV (k := k) (by omega)
        refine r_aload0 X dX6_late_33 ?_
        refine r_get X 10 dX6_late_34 z_c80 in_X6 tw_568 (by decide) rfl rfl (by decide) ?_
        refine r_iload1 X dX6_late_37 ?_
        refine r_zald X dX6_late_38 z_c89 (by decide) ⟨by omega, by omega⟩ ?_
        refine r_eqi (h1.set (k := k) (by omega) (by omega)) ?_
        refine r_if_ne (tgt := 45) X dX6_late_39 ⟨by omega, by omega⟩ (fun h39 => ?_) (fun h39 => ?_)
        · have hsd := sd_in hV (k := k) (m := m) (by omega) (by omega) (by omega) (by omega) (by omega)
          have hb := vxy_in hV (k := k) (d := sd V k m) (by omega) (by omega)
          have z1 := z_abs_in (x := vx V k (sd V k m) - V 4) (b := 40) (by omega)
          have z2 := z_abs_in (x := vy V k (sd V k m) - V 5) (b := 40) (by omega)
          have hM1 := (h1.up hM).1
          refine r_aload0 X dX6_late_45 ?_
          refine r_get X 9 dX6_late_46 z_c80 in_X6 tw_567 (by decide) rfl rfl (by decide) ?_
          refine r_bipush X dX6_late_49 (by decide +kernel) ?_
          refine r_iload1 X dX6_late_51 ?_
          refine r_imul X dX6_late_52 ?_
          refine r_iload2 X dX6_late_53 ?_
          refine r_iadd X dX6_late_54 ?_
          refine r_iald X dX6_late_55 z_c88 (by decide) ⟨by omega, by omega⟩ ?_
          refine r_eqi (h1.gv (k := k) (m := m) (by omega) (by omega) (by omega) (by omega) (by omega) (by omega)) ?_
          refine r_istore3 X dX6_late_56 ?_
          refine r_aload0 X dX6_late_57 ?_
          refine r_iload1 X dX6_late_58 ?_
          refine r_iload3 X dX6_late_59 ?_
          refine r_callVi (n := 2) X (c_X6_x l X.2.2.1 _ _ _ ⟨by omega, by omega⟩ ⟨by omega, by omega⟩ V (h1.up hM).1) dX6_late_60 tw_735 tw_737 tw_29 tw_46 tw_738 z_c80 (by decide) rfl rfl (Nat.le_of_ble_eq_true rfl) ⟨by decide, by decide⟩ (by decide +kernel) rfl ?_
          refine r_aload0 X dX6_late_63 ?_
          refine r_get X 0 dX6_late_64 z_c80 in_X6 tw_558 (by decide) rfl rfl (by decide) ?_
          refine r_iconst X dX6_late_67 ?_
          refine r_iald X dX6_late_68 z_c81 (by decide) ⟨by omega, by omega⟩ ?_
          refine r_eqi (hM1.1 4 (by omega) (by omega)) ?_
          refine r_isub X dX6_late_69 ?_
          refine r_callSi (n := 1) X (c_X6_size l X.2.2.1 _ _ ⟨by omega, by omega⟩) dX6_late_70 tw_739 tw_740 tw_46 tw_741 rfl (Nat.le_of_ble_eq_true rfl) ⟨by decide, by decide⟩ (by decide +kernel) rfl ?_
          refine r_aload0 X dX6_late_73 ?_
          refine r_iload1 X dX6_late_74 ?_
          refine r_iload3 X dX6_late_75 ?_
          refine r_callVi (n := 2) X (c_X6_y l X.2.2.1 _ _ _ ⟨by omega, by omega⟩ ⟨by omega, by omega⟩ V (h1.up hM).1) dX6_late_76 tw_742 tw_744 tw_30 tw_46 tw_745 z_c80 (by decide) rfl rfl (Nat.le_of_ble_eq_true rfl) ⟨by decide, by decide⟩ (by decide +kernel) rfl ?_
          refine r_aload0 X dX6_late_79 ?_
          refine r_get X 0 dX6_late_80 z_c80 in_X6 tw_558 (by decide) rfl rfl (by decide) ?_
          refine r_iconst X dX6_late_83 ?_
          refine r_iald X dX6_late_84 z_c81 (by decide) ⟨by omega, by omega⟩ ?_
          refine r_eqi (hM1.1 5 (by omega) (by omega)) ?_
          refine r_isub X dX6_late_85 ?_
          refine r_callSi (n := 1) X (c_X6_size l X.2.2.1 _ _ ⟨by omega, by omega⟩) dX6_late_86 tw_739 tw_740 tw_46 tw_741 rfl (Nat.le_of_ble_eq_true rfl) ⟨by decide, by decide⟩ (by decide +kernel) rfl ?_
          refine r_iadd X dX6_late_89 ?_
          refine r_aload0 X dX6_late_90 ?_
          refine r_get X 0 dX6_late_91 z_c80 in_X6 tw_558 (by decide) rfl rfl (by decide) ?_
          refine r_iconst X dX6_late_94 ?_
          refine r_iald X dX6_late_95 z_c81 (by decide) ⟨by omega, by omega⟩ ?_
          refine r_eqi (hM1.1 3 (by omega) (by omega)) ?_
          refine r_idiv X dX6_late_96 ⟨⟨by omega, by omega⟩, by omega, by omega⟩ ?_
          exact r_iretp X M dX6_late_97 ⟨by unfold s_late; rw [if_pos (by omega), if_neg (by omega), if_pos (by omega)], h1.up hM⟩
        · refine r_bipush X dX6_late_42 (by decide +kernel) ?_
          exact r_iretp X M dX6_late_44 ⟨by unfold s_late; (repeat' split) <;> omega, by first | exact h1.up hM | exact zMup.refl hM⟩
      · refine r_bipush X dX6_late_26 (by decide +kernel) ?_
        exact r_iretp X M dX6_late_28 ⟨by unfold s_late; (repeat' split) <;> omega, by first | exact h1.up hM | exact zMup.refl hM⟩
    · refine r_iconst X dX6_late_16 ?_
      exact r_iretp X M dX6_late_17 ⟨by unfold s_late; (repeat' split) <;> omega, by first | exact h1.up hM | exact zMup.refl hM⟩

set_option maxRecDepth 100000 in
set_option maxHeartbeats 4000000 in
theorem c_X6_closest (l : Launch) {D : va_G} {κ : Nat → ClassId} {a : Nat → Nat} {A : Nat → Prop} (hA : z_aD a A) (σ : zSt) (k m o : Int) (hk : z_in k) (hm : z_in m) (ho : z_in o) (V : zV) (hV : v_ok V) (hM : zModel σ V) (hW : zWho σ) : z_Tp l D κ a A yX6_closest cX6_closest 4 (some .int) 6 [.ref (a 80), .int (zI k), .int (zI m), .int (zI o)] σ (fun z σ' => z = s_closest V k m o ∧ zMup σ σ' V) := by
  refine z_Tp_of (cc := cX6_closest) (maxL := 4) (ret := (some .int)) (own := RX6) (lv0 := [some (.ref (a 80)), some (.int (zI k)), some (.int (zI m)), some (.int (zI o))]) hA (by decide) rfl (Nat.le_of_ble_eq_true rfl) rfl ?_
  intro pg e s mm below meth c X M
  obtain ⟨⟨hv0, hv1, hv2, hv3, hv4, hv5⟩, hvm, hvb, hvk, hvc, hvd⟩ := id hV
  have e0 := hM.1 0 (by omega) (by omega)
  have e1 := hM.1 1 (by omega) (by omega)
  refine r_aload0 X dX6_closest_0 ?_
  refine r_iload1 X dX6_closest_1 ?_
  refine r_callVi (n := 1) X (c_X6_isPicture l X.2.2.1 _ _ ⟨by omega, by omega⟩ ⟨by omega, by omega⟩) dX6_closest_2 tw_643 tw_645 tw_17 tw_46 tw_646 z_c80 (by decide) rfl rfl (Nat.le_of_ble_eq_true rfl) ⟨by decide, by decide⟩ (by decide +kernel) rfl ?_
  refine r_if_eqB (tgt := 33) X dX6_closest_5 (fun h5 => ?_) (fun h5 => ?_)
  · refine r_iconst X dX6_closest_33 ?_
    exact r_iretp X M dX6_closest_34 ⟨by unfold s_closest; (repeat' split) <;> omega, by first | exact h1.up hM | exact zMup.refl hM⟩
  · refine r_iload1 X dX6_closest_8 ?_
    refine r_if_eq (tgt := 33) X dX6_closest_9 ⟨by omega, by omega⟩ (fun h9 => ?_) (fun h9 => ?_)
    · refine r_iconst X dX6_closest_33 ?_
      exact r_iretp X M dX6_closest_34 ⟨by unfold s_closest; (repeat' split) <;> omega, by first | exact h1.up hM | exact zMup.refl hM⟩
    · refine r_aload0 X dX6_closest_12 ?_
      refine r_iload2 X dX6_closest_13 ?_
      refine r_callVi (n := 1) X (c_X6_isMarcher l X.2.2.1 _ _ ⟨by omega, by omega⟩ ⟨by omega, by omega⟩) dX6_closest_14 tw_626 tw_628 tw_16 tw_46 tw_629 z_c80 (by decide) rfl rfl (Nat.le_of_ble_eq_true rfl) ⟨by decide, by decide⟩ (by decide +kernel) rfl ?_
      refine r_if_eqB (tgt := 33) X dX6_closest_17 (fun h17 => ?_) (fun h17 => ?_)
      · refine r_iconst X dX6_closest_33 ?_
        exact r_iretp X M dX6_closest_34 ⟨by unfold s_closest; (repeat' split) <;> omega, by first | exact h1.up hM | exact zMup.refl hM⟩
      · refine r_aload0 X dX6_closest_20 ?_
        refine r_iload3 X dX6_closest_21 ?_
        refine r_callVi (n := 1) X (c_X6_isMarcher l X.2.2.1 _ _ ⟨by omega, by omega⟩ ⟨by omega, by omega⟩) dX6_closest_22 tw_626 tw_628 tw_16 tw_46 tw_629 z_c80 (by decide) rfl rfl (Nat.le_of_ble_eq_true rfl) ⟨by decide, by decide⟩ (by decide +kernel) rfl ?_
        refine r_if_eqB (tgt := 33) X dX6_closest_25 (fun h25 => ?_) (fun h25 => ?_)
        · refine r_iconst X dX6_closest_33 ?_
          exact r_iretp X M dX6_closest_34 ⟨by unfold s_closest; (repeat' split) <;> omega, by first | exact h1.up hM | exact zMup.refl hM⟩
        · refine r_iload2 X dX6_closest_28 ?_
          refine r_iload3 X dX6_closest_29 ?_
          refine r_icmp_ne (tgt := 35) X dX6_closest_30 ⟨⟨by omega, by omega⟩, by omega, by omega⟩ (fun h30 => ?_) (fun h30 => ?_)
          · have q1 := hvm m (by omega) (by omega)
            rw [show 7 + 2 * m = 6 + (2 * m + 1) by omega] at q1
            have hil := hM.2.1 (2 * m + 1) (by omega) (by omega)
            have q2 := hvm o (by omega) (by omega)
            rw [show 7 + 2 * o = 6 + (2 * o + 1) by omega] at q2
            have hio := hM.2.1 (2 * o + 1) (by omega) (by omega)
            refine r_aload0 X dX6_closest_35 ?_
            refine r_iload2 X dX6_closest_36 ?_
            refine r_callVi (n := 1) X (c_X6_isIll l X.2.2.1 _ _ ⟨by omega, by omega⟩ ⟨by omega, by omega⟩) dX6_closest_37 tw_711 tw_713 tw_23 tw_46 tw_714 z_c80 (by decide) rfl rfl (Nat.le_of_ble_eq_true rfl) ⟨by decide, by decide⟩ (by decide +kernel) rfl ?_
            refine r_if_neB (tgt := 51) X dX6_closest_40 (fun h40 => ?_) (fun h40 => ?_)
            · refine r_bipush X dX6_closest_51 (by decide +kernel) ?_
              exact r_iretp X M dX6_closest_53 ⟨by unfold s_closest; (repeat' split) <;> omega, by first | exact h1.up hM | exact zMup.refl hM⟩
            · refine r_aload0 X dX6_closest_43 ?_
              refine r_iload3 X dX6_closest_44 ?_
              refine r_callVi (n := 1) X (c_X6_isIll l X.2.2.1 _ _ ⟨by omega, by omega⟩ ⟨by omega, by omega⟩) dX6_closest_45 tw_711 tw_713 tw_23 tw_46 tw_714 z_c80 (by decide) rfl rfl (Nat.le_of_ble_eq_true rfl) ⟨by decide, by decide⟩ (by decide +kernel) rfl ?_
              refine r_if_eqB (tgt := 54) X dX6_closest_48 (fun h48 => ?_) (fun h48 => ?_)
              · refine r_aload0 X dX6_closest_54 ?_
                refine r_callVq (n := 0) X (c_X6_findAll l X.2.2.1 _ V hV hM hW) dX6_closest_55 tw_715 tw_717 tw_24 tw_46 tw_718 z_c80 (by decide) rfl rfl (Nat.le_of_ble_eq_true rfl) ⟨by decide, by decide⟩ (by decide +kernel) rfl (fun σ1 h1 => ?_)
                have h01 := vfd_01 hV (k := k) (by omega)
                refine r_aload0 X dX6_closest_58 ?_
                refine r_get X 10 dX6_closest_59 z_c80 in_X6 tw_568 (by decide) rfl rfl (by decide) ?_
                refine r_iload1 X dX6_closest_62 ?_
                refine r_zald X dX6_closest_63 z_c89 (by decide) ⟨by omega, by omega⟩ ?_
                refine r_eqi (h1.set (k := k) (by omega) (by omega)) ?_
                refine r_if_eq (tgt := 99) X dX6_closest_64 ⟨by omega, by omega⟩ (fun h64 => ?_) (fun h64 => ?_)
                · refine r_bipush X dX6_closest_99 (by decide +kernel) ?_
                  exact r_iretp X M dX6_closest_101 ⟨by unfold s_closest; (repeat' split) <;> omega, by first | exact h1.up hM | exact zMup.refl hM⟩
                · have hfp := vfd_pred (V := V) (k := k) (by omega) (by omega)
                  have s1 := sd_in hV (k := k) (m := m) (by omega) (by omega) (by omega) (by omega) (by omega)
                  have s2 := sd_in hV (k := k) (m := o) (by omega) (by omega) (by omega) (by omega) (by omega)
                  have s3 := sd_in hV (k := k - 1) (m := m) (by omega) hfp (by omega) (by omega) (by omega)
                  have s4 := sd_in hV (k := k - 1) (m := o) (by omega) hfp (by omega) (by omega) (by omega)
                  refine r_aload0 X dX6_closest_67 ?_
                  refine r_iload1 X dX6_closest_68 ?_
                  refine r_iload2 X dX6_closest_69 ?_
                  refine r_aload0 X dX6_closest_70 ?_
                  refine r_get X 9 dX6_closest_71 z_c80 in_X6 tw_567 (by decide) rfl rfl (by decide) ?_
                  refine r_bipush X dX6_closest_74 (by decide +kernel) ?_
                  refine r_iload1 X dX6_closest_76 ?_
                  refine r_imul X dX6_closest_77 ?_
                  refine r_iload2 X dX6_closest_78 ?_
                  refine r_iadd X dX6_closest_79 ?_
                  refine r_iald X dX6_closest_80 z_c88 (by decide) ⟨by omega, by omega⟩ ?_
                  refine r_eqi (h1.gv (k := k) (m := m) (by omega) (by omega) (by omega) (by omega) (by omega) (by omega)) ?_
                  refine r_iload3 X dX6_closest_81 ?_
                  refine r_aload0 X dX6_closest_82 ?_
                  refine r_get X 9 dX6_closest_83 z_c80 in_X6 tw_567 (by decide) rfl rfl (by decide) ?_
                  refine r_bipush X dX6_closest_86 (by decide +kernel) ?_
                  refine r_iload1 X dX6_closest_88 ?_
                  refine r_imul X dX6_closest_89 ?_
                  refine r_iload3 X dX6_closest_90 ?_
                  refine r_iadd X dX6_closest_91 ?_
                  refine r_iald X dX6_closest_92 z_c88 (by decide) ⟨by omega, by omega⟩ ?_
                  refine r_eqi (h1.gv (k := k) (m := o) (by omega) (by omega) (by omega) (by omega) (by omega) (by omega)) ?_
                  refine r_callVi (n := 5) X (c_X6_nearest l X.2.2.1 _ k m _ o _ (sd V (k - 1) m) (sd V (k - 1) o) ⟨by omega, by omega⟩ ⟨by omega, by omega⟩ ⟨by omega, by omega⟩ ⟨by omega, by omega⟩ ⟨by omega, by omega⟩ ⟨by omega, by omega⟩ ⟨by omega, by omega⟩ (h1.gv (k := k - 1) (by omega) (by omega) hfp (by omega) (by omega) (by omega)) (h1.gv (k := k - 1) (by omega) (by omega) hfp (by omega) (by omega) (by omega)) V hV (h1.up hM).1 (hvc k (by omega) (by omega))) dX6_closest_93 tw_753 tw_755 tw_32 tw_46 tw_756 z_c80 (by decide) rfl rfl (Nat.le_of_ble_eq_true rfl) ⟨by decide, by decide⟩ (by decide +kernel) rfl ?_
                  refine r_goto (tgt := 101) X dX6_closest_96 (by decide) ?_
                  exact r_iretp X M dX6_closest_101 ⟨by unfold s_closest; (repeat' split) <;> omega, by first | exact h1.up hM | exact zMup.refl hM⟩
              · refine r_bipush X dX6_closest_51 (by decide +kernel) ?_
                exact r_iretp X M dX6_closest_53 ⟨by unfold s_closest; (repeat' split) <;> omega, by first | exact h1.up hM | exact zMup.refl hM⟩
          · refine r_iconst X dX6_closest_33 ?_
            exact r_iretp X M dX6_closest_34 ⟨by unfold s_closest; (repeat' split) <;> omega, by first | exact h1.up hM | exact zMup.refl hM⟩

theorem wUp_in {V : zV} {k m h w : Int} (hc : 1 ≤ vc V k ∧ vc V k ≤ 16) (hh : 0 ≤ h ∧ h ≤ 2 * vc V k) (hA : 0 ≤ wA V k m w ∧ wA V k m w ≤ 40) (hB : 0 ≤ wB V k m w ∧ wB V k m w ≤ 40) : (0 ≤ wUp V k m h w ∧ wUp V k m h w ≤ 10000) ∧ wUp V k m h w = wA V k m w * (2 * vc V k - h) + wB V k m w * h := by
  have e : wUp V k m h w = wA V k m w * (2 * vc V k - h) + wB V k m w * h := by
    unfold wUp
    rw [Int.mul_sub, Int.mul_sub, Int.mul_comm (2 * vc V k), Int.mul_comm h, Int.mul_comm h]
    omega
  have m1 := z_mul_b (a := wA V k m w) (b := 2 * vc V k - h) (A := 40) (B := 32) (by omega) (by omega) (by omega) (by omega)
  have m2 := z_mul_b (a := wB V k m w) (b := h) (A := 40) (B := 32) (by omega) (by omega) (by omega) (by omega)
  have m3 : 0 ≤ wA V k m w * (2 * vc V k - h) := Int.mul_nonneg hA.1 (by omega)
  have m4 : 0 ≤ wB V k m w * h := Int.mul_nonneg hB.1 hh.1
  exact ⟨by omega, e⟩

set_option maxRecDepth 100000 in
set_option maxHeartbeats 4000000 in
theorem c_X6_way (l : Launch) {D : va_G} {κ : Nat → ClassId} {a : Nat → Nat} {A : Nat → Prop} (hA : z_aD a A) (σ : zSt) (k m h w : Int) (hk : z_in k) (hm : z_in m) (hh : z_in h) (hw : z_in w) (V : zV) (hV : v_ok V) (hM : zModel σ V) (hW : zWho σ) : z_Tp l D κ a A yX6_way cX6_way 12 (some .int) 6 [.ref (a 80), .int (zI k), .int (zI m), .int (zI h), .int (zI w)] σ (fun z σ' => z = s_way V k m h w ∧ zMup σ σ' V) := by
  refine z_Tp_of (cc := cX6_way) (maxL := 12) (ret := (some .int)) (own := RX6) (lv0 := [some (.ref (a 80)), some (.int (zI k)), some (.int (zI m)), some (.int (zI h)), some (.int (zI w)), none, none, none, none, none, none, none]) hA (by decide) rfl (Nat.le_of_ble_eq_true rfl) rfl ?_
  intro pg e s mm below meth c X M
  obtain ⟨⟨hv0, hv1, hv2, hv3, hv4, hv5⟩, hvm, hvb, hvk, hvc, hvd⟩ := id hV
  have e0 := hM.1 0 (by omega) (by omega)
  have e1 := hM.1 1 (by omega) (by omega)
  refine r_aload0 X dX6_way_0 ?_
  refine r_iload1 X dX6_way_1 ?_
  refine r_callVi (n := 1) X (c_X6_isPicture l X.2.2.1 _ _ ⟨by omega, by omega⟩ ⟨by omega, by omega⟩) dX6_way_2 tw_643 tw_645 tw_17 tw_46 tw_646 z_c80 (by decide) rfl rfl (Nat.le_of_ble_eq_true rfl) ⟨by decide, by decide⟩ (by decide +kernel) rfl ?_
  refine r_if_eqB (tgt := 53) X dX6_way_5 (fun h5 => ?_) (fun h5 => ?_)
  · refine r_iconst X dX6_way_53 ?_
    exact r_iretp X M dX6_way_54 ⟨by unfold s_way; (repeat' split) <;> omega, by first | exact h1.up hM | exact zMup.refl hM⟩
  · refine r_iload1 X dX6_way_8 ?_
    refine r_if_eq (tgt := 53) X dX6_way_9 ⟨by omega, by omega⟩ (fun h9 => ?_) (fun h9 => ?_)
    · refine r_iconst X dX6_way_53 ?_
      exact r_iretp X M dX6_way_54 ⟨by unfold s_way; (repeat' split) <;> omega, by first | exact h1.up hM | exact zMup.refl hM⟩
    · refine r_aload0 X dX6_way_12 ?_
      refine r_iload2 X dX6_way_13 ?_
      refine r_callVi (n := 1) X (c_X6_isMarcher l X.2.2.1 _ _ ⟨by omega, by omega⟩ ⟨by omega, by omega⟩) dX6_way_14 tw_626 tw_628 tw_16 tw_46 tw_629 z_c80 (by decide) rfl rfl (Nat.le_of_ble_eq_true rfl) ⟨by decide, by decide⟩ (by decide +kernel) rfl ?_
      refine r_if_eqB (tgt := 53) X dX6_way_17 (fun h17 => ?_) (fun h17 => ?_)
      · refine r_iconst X dX6_way_53 ?_
        exact r_iretp X M dX6_way_54 ⟨by unfold s_way; (repeat' split) <;> omega, by first | exact h1.up hM | exact zMup.refl hM⟩
      · have hcc := vn_in hV (k := k) (by omega)
        refine r_iload3 X dX6_way_20 ?_
        refine r_i2l X dX6_way_21 ⟨by omega, by omega⟩ ?_
        refine r_lconst X dX6_way_22 0 (by decide +kernel) ?_
        refine r_iconst X dX6_way_23 ?_
        refine r_aload0 X dX6_way_24 ?_
        refine r_get X 2 dX6_way_25 z_c80 in_X6 tw_560 (by decide) rfl rfl (by decide) ?_
        refine r_iconst X dX6_way_28 ?_
        refine r_iload1 X dX6_way_29 ?_
        refine r_imul X dX6_way_30 ?_
        refine r_iald X dX6_way_31 z_c83 (by decide) ⟨by omega, by omega⟩ ?_
        refine r_eqi (y := vc V k) (hM.2.2.1 _ (by omega) (by omega)) ?_
        refine r_imul X dX6_way_32 ?_
        refine r_i2l X dX6_way_33 ⟨by omega, by omega⟩ ?_
        refine r_callSi (n := 3) X (c_X6_in l X.2.2.1 _ _ _ _ ⟨by omega, by omega⟩ ⟨by omega, by omega⟩ ⟨by omega, by omega⟩) dX6_way_34 tw_619 tw_620 tw_46 tw_621 rfl (Nat.le_of_ble_eq_true rfl) ⟨by decide, by decide⟩ (by decide +kernel) rfl ?_
        refine r_if_eqB (tgt := 53) X dX6_way_37 (fun h37 => ?_) (fun h37 => ?_)
        · refine r_iconst X dX6_way_53 ?_
          exact r_iretp X M dX6_way_54 ⟨by unfold s_way; (repeat' split) <;> omega, by first | exact h1.up hM | exact zMup.refl hM⟩
        · refine r_iload4 X dX6_way_40 ?_
          refine r_i2l X dX6_way_42 ⟨by omega, by omega⟩ ?_
          refine r_lconst X dX6_way_43 0 (by decide +kernel) ?_
          refine r_ldc2 X dX6_way_44 3 (by decide +kernel) tw_696 ?_
          refine r_callSi (n := 3) X (c_X6_in l X.2.2.1 _ _ _ _ ⟨by omega, by omega⟩ ⟨by omega, by omega⟩ ⟨by omega, by omega⟩) dX6_way_47 tw_619 tw_620 tw_46 tw_621 rfl (Nat.le_of_ble_eq_true rfl) ⟨by decide, by decide⟩ (by decide +kernel) rfl ?_
          refine r_if_neB (tgt := 55) X dX6_way_50 (fun h50 => ?_) (fun h50 => ?_)
          · have q1 := hvm m (by omega) (by omega)
            rw [show 7 + 2 * m = 6 + (2 * m + 1) by omega] at q1
            have hil := hM.2.1 (2 * m + 1) (by omega) (by omega)
            refine r_aload0 X dX6_way_55 ?_
            refine r_iload2 X dX6_way_56 ?_
            refine r_callVi (n := 1) X (c_X6_isIll l X.2.2.1 _ _ ⟨by omega, by omega⟩ ⟨by omega, by omega⟩) dX6_way_57 tw_711 tw_713 tw_23 tw_46 tw_714 z_c80 (by decide) rfl rfl (Nat.le_of_ble_eq_true rfl) ⟨by decide, by decide⟩ (by decide +kernel) rfl ?_
            refine r_if_eqB (tgt := 66) X dX6_way_60 (fun h60 => ?_) (fun h60 => ?_)
            · refine r_aload0 X dX6_way_66 ?_
              refine r_callVq (n := 0) X (c_X6_findAll l X.2.2.1 _ V hV hM hW) dX6_way_67 tw_715 tw_717 tw_24 tw_46 tw_718 z_c80 (by decide) rfl rfl (Nat.le_of_ble_eq_true rfl) ⟨by decide, by decide⟩ (by decide +kernel) rfl (fun σ1 h1 => ?_)
              have h01 := vfd_01 hV (k := k) (by omega)
              refine r_aload0 X dX6_way_70 ?_
              refine r_get X 10 dX6_way_71 z_c80 in_X6 tw_568 (by decide) rfl rfl (by decide) ?_
              refine r_iload1 X dX6_way_74 ?_
              refine r_zald X dX6_way_75 z_c89 (by decide) ⟨by omega, by omega⟩ ?_
              refine r_eqi (h1.set (k := k) (by omega) (by omega)) ?_
              refine r_if_ne (tgt := 82) X dX6_way_76 ⟨by omega, by omega⟩ (fun h76 => ?_) (fun h76 => ?_)
              · have hfp := vfd_pred (V := V) (k := k) (by omega) (by omega)
                have s1 := sd_in hV (k := k) (m := m) (by omega) (by omega) (by omega) (by omega) (by omega)
                have s3 := sd_in hV (k := k - 1) (m := m) (by omega) hfp (by omega) (by omega) (by omega)
                have b1 := vxy_in hV (k := k) (d := sd V k m) (by omega) (by omega)
                have b3 := vxy_in hV (k := k - 1) (d := sd V (k - 1) m) (by omega) (by omega)
                have hc1 : 1 ≤ vc V k := hvc k (by omega) (by omega)
                have hwA : 0 ≤ wA V k m w ∧ wA V k m w ≤ 40 := by unfold wA; split <;> omega
                have hwB : 0 ≤ wB V k m w ∧ wB V k m w ≤ 40 := by unfold wB; split <;> omega
                have hup := wUp_in (V := V) (k := k) (m := m) (h := h) (w := w) (by omega) (by omega) hwA hwB
                refine r_aload0 X dX6_way_82 ?_
                refine r_get X 9 dX6_way_83 z_c80 in_X6 tw_567 (by decide) rfl rfl (by decide) ?_
                refine r_bipush X dX6_way_86 (by decide +kernel) ?_
                refine r_iload1 X dX6_way_88 ?_
                refine r_iconst X dX6_way_89 ?_
                refine r_isub X dX6_way_90 ?_
                refine r_imul X dX6_way_91 ?_
                refine r_iload2 X dX6_way_92 ?_
                refine r_iadd X dX6_way_93 ?_
                refine r_iald X dX6_way_94 z_c88 (by decide) ⟨by omega, by omega⟩ ?_
                refine r_eqi (h1.gv (k := k - 1) (m := m) (by omega) (by omega) hfp (by omega) (by omega) (by omega)) ?_
                refine r_istore5 X dX6_way_95 ?_
                refine r_aload0 X dX6_way_97 ?_
                refine r_get X 9 dX6_way_98 z_c80 in_X6 tw_567 (by decide) rfl rfl (by decide) ?_
                refine r_bipush X dX6_way_101 (by decide +kernel) ?_
                refine r_iload1 X dX6_way_103 ?_
                refine r_imul X dX6_way_104 ?_
                refine r_iload2 X dX6_way_105 ?_
                refine r_iadd X dX6_way_106 ?_
                refine r_iald X dX6_way_107 z_c88 (by decide) ⟨by omega, by omega⟩ ?_
                refine r_eqi (h1.gv (k := k) (m := m) (by omega) (by omega) (by omega) (by omega) (by omega) (by omega)) ?_
                refine r_istore6 X dX6_way_108 ?_
                refine r_iload4 X dX6_way_110 ?_
                refine r_iconst X dX6_way_112 ?_
                refine r_icmp_ge (tgt := 128) X dX6_way_113 ⟨⟨by omega, by omega⟩, by omega, by omega⟩ (fun h113 => ?_) (fun h113 => ?_)
                · refine r_aload0 X dX6_way_128 ?_
                  refine r_iload1 X dX6_way_129 ?_
                  refine r_iconst X dX6_way_130 ?_
                  refine r_isub X dX6_way_131 ?_
                  refine r_iload5 X dX6_way_132 ?_
                  refine r_callVi (n := 2) X (c_X6_y l X.2.2.1 _ _ _ ⟨by omega, by omega⟩ ⟨by omega, by omega⟩ V (h1.up hM).1) dX6_way_134 tw_742 tw_744 tw_30 tw_46 tw_745 z_c80 (by decide) rfl rfl (Nat.le_of_ble_eq_true rfl) ⟨by decide, by decide⟩ (by decide +kernel) rfl ?_
                  refine r_eqi (y := wA V k m w) (by unfold wA; first | (rw [if_pos (by omega)]; done) | (rw [if_neg (by omega)]; done)) ?_
                  refine r_istore7 X dX6_way_137 ?_
                  refine r_iload4 X dX6_way_139 ?_
                  refine r_iconst X dX6_way_141 ?_
                  refine r_icmp_ge (tgt := 155) X dX6_way_142 ⟨⟨by omega, by omega⟩, by omega, by omega⟩ (fun h142 => ?_) (fun h142 => ?_)
                  · refine r_aload0 X dX6_way_155 ?_
                    refine r_iload1 X dX6_way_156 ?_
                    refine r_iload6 X dX6_way_157 ?_
                    refine r_callVi (n := 2) X (c_X6_y l X.2.2.1 _ _ _ ⟨by omega, by omega⟩ ⟨by omega, by omega⟩ V (h1.up hM).1) dX6_way_159 tw_742 tw_744 tw_30 tw_46 tw_745 z_c80 (by decide) rfl rfl (Nat.le_of_ble_eq_true rfl) ⟨by decide, by decide⟩ (by decide +kernel) rfl ?_
                    refine r_eqi (y := wB V k m w) (by unfold wB; first | (rw [if_pos (by omega)]; done) | (rw [if_neg (by omega)]; done)) ?_
                    refine r_istore8 X dX6_way_162 ?_
                    refine r_iconst X dX6_way_164 ?_
                    refine r_aload0 X dX6_way_165 ?_
                    refine r_get X 2 dX6_way_166 z_c80 in_X6 tw_560 (by decide) rfl rfl (by decide) ?_
                    refine r_iconst X dX6_way_169 ?_
                    refine r_iload1 X dX6_way_170 ?_
                    refine r_imul X dX6_way_171 ?_
                    refine r_iald X dX6_way_172 z_c83 (by decide) ⟨by omega, by omega⟩ ?_
                    refine r_eqi (y := vc V k) ((h1.up hM).1.2.2.1 _ (by omega) (by omega)) ?_
                    refine r_imul X dX6_way_173 ?_
                    refine r_istore9 X dX6_way_174 ?_
                    refine r_iload9 X dX6_way_176 ?_
                    refine r_iload7 X dX6_way_178 ?_
                    refine r_imul X dX6_way_180 ?_
                    refine r_iload3 X dX6_way_181 ?_
                    refine r_iload8 X dX6_way_182 ?_
                    refine r_iload7 X dX6_way_184 ?_
                    refine r_isub X dX6_way_186 ?_
                    refine r_imul X dX6_way_187 ?_
                    refine r_iadd X dX6_way_188 ?_
                    refine r_eqi (y := (((wUp V k m h w).toNat : Nat) : Int)) (by rw [show (((wUp V k m h w).toNat : Nat) : Int) = wUp V k m h w by omega]; rfl) ?_
                    refine r_istore10 X dX6_way_189 ?_
                    refine r_iload10 X dX6_way_191 ?_
                    refine r_iload9 X dX6_way_193 ?_
                    refine r_eqi (y := (((2 * vc V k).toNat : Nat) : Int)) (by omega) ?_
                    refine r_callSi (n := 2) X (c_X6_divisor l X.2.2.1 _ (wUp V k m h w).toNat (2 * vc V k).toNat (by omega) (by omega)) dX6_way_195 tw_770 tw_771 tw_46 tw_772 rfl (Nat.le_of_ble_eq_true rfl) ⟨by decide, by decide⟩ (by decide +kernel) rfl ?_
                    refine r_istore11 X dX6_way_198 ?_
                    have hgp : 0 < Nat.gcd (wUp V k m h w).toNat (2 * vc V k).toNat := Nat.gcd_pos_of_pos_right _ (by omega)
                    have hgl : Nat.gcd (wUp V k m h w).toNat (2 * vc V k).toNat ≤ (2 * vc V k).toNat := Nat.gcd_le_right _ (by omega)
                    refine r_iload4 X dX6_way_200 ?_
                    refine r_iconst X dX6_way_202 ?_
                    refine r_irem X dX6_way_203 ⟨⟨by omega, by omega⟩, by omega, by omega⟩ ?_
                    refine r_if_ne (tgt := 215) X dX6_way_204 ⟨by omega, by omega⟩ (fun h204 => ?_) (fun h204 => ?_)
                    · refine r_iload9 X dX6_way_215 ?_
                      refine r_iload11 X dX6_way_217 ?_
                      refine r_idiv X dX6_way_219 ⟨⟨by omega, by omega⟩, by omega, by omega⟩ ?_
                      exact r_iretp X M dX6_way_220 ⟨by unfold s_way; rw [if_pos (by omega), if_neg (by omega), if_pos (by omega)]; first | (rw [if_pos (by omega), show (((wUp V k m h w).toNat : Nat) : Int) = wUp V k m h w by omega]; done) | (rw [if_neg (by omega)]; done), h1.up hM⟩
                    · refine r_iload10 X dX6_way_207 ?_
                      refine r_iload11 X dX6_way_209 ?_
                      refine r_idiv X dX6_way_211 ⟨⟨by omega, by omega⟩, by omega, by omega⟩ ?_
                      refine r_goto (tgt := 220) X dX6_way_212 (by decide) ?_
                      exact r_iretp X M dX6_way_220 ⟨by unfold s_way; rw [if_pos (by omega), if_neg (by omega), if_pos (by omega)]; first | (rw [if_pos (by omega), show (((wUp V k m h w).toNat : Nat) : Int) = wUp V k m h w by omega]; done) | (rw [if_neg (by omega)]; done), h1.up hM⟩
                  · refine r_aload0 X dX6_way_145 ?_
                    refine r_iload1 X dX6_way_146 ?_
                    refine r_iload6 X dX6_way_147 ?_
                    refine r_callVi (n := 2) X (c_X6_x l X.2.2.1 _ _ _ ⟨by omega, by omega⟩ ⟨by omega, by omega⟩ V (h1.up hM).1) dX6_way_149 tw_735 tw_737 tw_29 tw_46 tw_738 z_c80 (by decide) rfl rfl (Nat.le_of_ble_eq_true rfl) ⟨by decide, by decide⟩ (by decide +kernel) rfl ?_
                    refine r_goto (tgt := 162) X dX6_way_152 (by decide) ?_
                    refine r_eqi (y := wB V k m w) (by unfold wB; first | (rw [if_pos (by omega)]; done) | (rw [if_neg (by omega)]; done)) ?_
                    refine r_istore8 X dX6_way_162 ?_
                    refine r_iconst X dX6_way_164 ?_
                    refine r_aload0 X dX6_way_165 ?_
                    refine r_get X 2 dX6_way_166 z_c80 in_X6 tw_560 (by decide) rfl rfl (by decide) ?_
                    refine r_iconst X dX6_way_169 ?_
                    refine r_iload1 X dX6_way_170 ?_
                    refine r_imul X dX6_way_171 ?_
                    refine r_iald X dX6_way_172 z_c83 (by decide) ⟨by omega, by omega⟩ ?_
                    refine r_eqi (y := vc V k) ((h1.up hM).1.2.2.1 _ (by omega) (by omega)) ?_
                    refine r_imul X dX6_way_173 ?_
                    refine r_istore9 X dX6_way_174 ?_
                    refine r_iload9 X dX6_way_176 ?_
                    refine r_iload7 X dX6_way_178 ?_
                    refine r_imul X dX6_way_180 ?_
                    refine r_iload3 X dX6_way_181 ?_
                    refine r_iload8 X dX6_way_182 ?_
                    refine r_iload7 X dX6_way_184 ?_
                    refine r_isub X dX6_way_186 ?_
                    refine r_imul X dX6_way_187 ?_
                    refine r_iadd X dX6_way_188 ?_
                    refine r_eqi (y := (((wUp V k m h w).toNat : Nat) : Int)) (by rw [show (((wUp V k m h w).toNat : Nat) : Int) = wUp V k m h w by omega]; rfl) ?_
                    refine r_istore10 X dX6_way_189 ?_
                    refine r_iload10 X dX6_way_191 ?_
                    refine r_iload9 X dX6_way_193 ?_
                    refine r_eqi (y := (((2 * vc V k).toNat : Nat) : Int)) (by omega) ?_
                    refine r_callSi (n := 2) X (c_X6_divisor l X.2.2.1 _ (wUp V k m h w).toNat (2 * vc V k).toNat (by omega) (by omega)) dX6_way_195 tw_770 tw_771 tw_46 tw_772 rfl (Nat.le_of_ble_eq_true rfl) ⟨by decide, by decide⟩ (by decide +kernel) rfl ?_
                    refine r_istore11 X dX6_way_198 ?_
                    have hgp : 0 < Nat.gcd (wUp V k m h w).toNat (2 * vc V k).toNat := Nat.gcd_pos_of_pos_right _ (by omega)
                    have hgl : Nat.gcd (wUp V k m h w).toNat (2 * vc V k).toNat ≤ (2 * vc V k).toNat := Nat.gcd_le_right _ (by omega)
                    refine r_iload4 X dX6_way_200 ?_
                    refine r_iconst X dX6_way_202 ?_
                    refine r_irem X dX6_way_203 ⟨⟨by omega, by omega⟩, by omega, by omega⟩ ?_
                    refine r_if_ne (tgt := 215) X dX6_way_204 ⟨by omega, by omega⟩ (fun h204 => ?_) (fun h204 => ?_)
                    · refine r_iload9 X dX6_way_215 ?_
                      refine r_iload11 X dX6_way_217 ?_
                      refine r_idiv X dX6_way_219 ⟨⟨by omega, by omega⟩, by omega, by omega⟩ ?_
                      exact r_iretp X M dX6_way_220 ⟨by unfold s_way; rw [if_pos (by omega), if_neg (by omega), if_pos (by omega)]; first | (rw [if_pos (by omega), show (((wUp V k m h w).toNat : Nat) : Int) = wUp V k m h w by omega]; done) | (rw [if_neg (by omega)]; done), h1.up hM⟩
                    · refine r_iload10 X dX6_way_207 ?_
                      refine r_iload11 X dX6_way_209 ?_
                      refine r_idiv X dX6_way_211 ⟨⟨by omega, by omega⟩, by omega, by omega⟩ ?_
                      refine r_goto (tgt := 220) X dX6_way_212 (by decide) ?_
                      exact r_iretp X M dX6_way_220 ⟨by unfold s_way; rw [if_pos (by omega), if_neg (by omega), if_pos (by omega)]; first | (rw [if_pos (by omega), show (((wUp V k m h w).toNat : Nat) : Int) = wUp V k m h w by omega]; done) | (rw [if_neg (by omega)]; done), h1.up hM⟩
                · refine r_aload0 X dX6_way_116 ?_
                  refine r_iload1 X dX6_way_117 ?_
                  refine r_iconst X dX6_way_118 ?_
                  refine r_isub X dX6_way_119 ?_
                  refine r_iload5 X dX6_way_120 ?_
                  refine r_callVi (n := 2) X (c_X6_x l X.2.2.1 _ _ _ ⟨by omega, by omega⟩ ⟨by omega, by omega⟩ V (h1.up hM).1) dX6_way_122 tw_735 tw_737 tw_29 tw_46 tw_738 z_c80 (by decide) rfl rfl (Nat.le_of_ble_eq_true rfl) ⟨by decide, by decide⟩ (by decide +kernel) rfl ?_
                  refine r_goto (tgt := 137) X dX6_way_125 (by decide) ?_
                  refine r_eqi (y := wA V k m w) (by unfold wA; first | (rw [if_pos (by omega)]; done) | (rw [if_neg (by omega)]; done)) ?_
                  refine r_istore7 X dX6_way_137 ?_
                  refine r_iload4 X dX6_way_139 ?_
                  refine r_iconst X dX6_way_141 ?_
                  refine r_icmp_ge (tgt := 155) X dX6_way_142 ⟨⟨by omega, by omega⟩, by omega, by omega⟩ (fun h142 => ?_) (fun h142 => ?_)
                  · refine r_aload0 X dX6_way_155 ?_
                    refine r_iload1 X dX6_way_156 ?_
                    refine r_iload6 X dX6_way_157 ?_
                    refine r_callVi (n := 2) X (c_X6_y l X.2.2.1 _ _ _ ⟨by omega, by omega⟩ ⟨by omega, by omega⟩ V (h1.up hM).1) dX6_way_159 tw_742 tw_744 tw_30 tw_46 tw_745 z_c80 (by decide) rfl rfl (Nat.le_of_ble_eq_true rfl) ⟨by decide, by decide⟩ (by decide +kernel) rfl ?_
                    refine r_eqi (y := wB V k m w) (by unfold wB; first | (rw [if_pos (by omega)]; done) | (rw [if_neg (by omega)]; done)) ?_
                    refine r_istore8 X dX6_way_162 ?_
                    refine r_iconst X dX6_way_164 ?_
                    refine r_aload0 X dX6_way_165 ?_
                    refine r_get X 2 dX6_way_166 z_c80 in_X6 tw_560 (by decide) rfl rfl (by decide) ?_
                    refine r_iconst X dX6_way_169 ?_
                    refine r_iload1 X dX6_way_170 ?_
                    refine r_imul X dX6_way_171 ?_
                    refine r_iald X dX6_way_172 z_c83 (by decide) ⟨by omega, by omega⟩ ?_
                    refine r_eqi (y := vc V k) ((h1.up hM).1.2.2.1 _ (by omega) (by omega)) ?_
                    refine r_imul X dX6_way_173 ?_
                    refine r_istore9 X dX6_way_174 ?_
                    refine r_iload9 X dX6_way_176 ?_
                    refine r_iload7 X dX6_way_178 ?_
                    refine r_imul X dX6_way_180 ?_
                    refine r_iload3 X dX6_way_181 ?_
                    refine r_iload8 X dX6_way_182 ?_
                    refine r_iload7 X dX6_way_184 ?_
                    refine r_isub X dX6_way_186 ?_
                    refine r_imul X dX6_way_187 ?_
                    refine r_iadd X dX6_way_188 ?_
                    refine r_eqi (y := (((wUp V k m h w).toNat : Nat) : Int)) (by rw [show (((wUp V k m h w).toNat : Nat) : Int) = wUp V k m h w by omega]; rfl) ?_
                    refine r_istore10 X dX6_way_189 ?_
                    refine r_iload10 X dX6_way_191 ?_
                    refine r_iload9 X dX6_way_193 ?_
                    refine r_eqi (y := (((2 * vc V k).toNat : Nat) : Int)) (by omega) ?_
                    refine r_callSi (n := 2) X (c_X6_divisor l X.2.2.1 _ (wUp V k m h w).toNat (2 * vc V k).toNat (by omega) (by omega)) dX6_way_195 tw_770 tw_771 tw_46 tw_772 rfl (Nat.le_of_ble_eq_true rfl) ⟨by decide, by decide⟩ (by decide +kernel) rfl ?_
                    refine r_istore11 X dX6_way_198 ?_
                    have hgp : 0 < Nat.gcd (wUp V k m h w).toNat (2 * vc V k).toNat := Nat.gcd_pos_of_pos_right _ (by omega)
                    have hgl : Nat.gcd (wUp V k m h w).toNat (2 * vc V k).toNat ≤ (2 * vc V k).toNat := Nat.gcd_le_right _ (by omega)
                    refine r_iload4 X dX6_way_200 ?_
                    refine r_iconst X dX6_way_202 ?_
                    refine r_irem X dX6_way_203 ⟨⟨by omega, by omega⟩, by omega, by omega⟩ ?_
                    refine r_if_ne (tgt := 215) X dX6_way_204 ⟨by omega, by omega⟩ (fun h204 => ?_) (fun h204 => ?_)
                    · refine r_iload9 X dX6_way_215 ?_
                      refine r_iload11 X dX6_way_217 ?_
                      refine r_idiv X dX6_way_219 ⟨⟨by omega, by omega⟩, by omega, by omega⟩ ?_
                      exact r_iretp X M dX6_way_220 ⟨by unfold s_way; rw [if_pos (by omega), if_neg (by omega), if_pos (by omega)]; first | (rw [if_pos (by omega), show (((wUp V k m h w).toNat : Nat) : Int) = wUp V k m h w by omega]; done) | (rw [if_neg (by omega)]; done), h1.up hM⟩
                    · refine r_iload10 X dX6_way_207 ?_
                      refine r_iload11 X dX6_way_209 ?_
                      refine r_idiv X dX6_way_211 ⟨⟨by omega, by omega⟩, by omega, by omega⟩ ?_
                      refine r_goto (tgt := 220) X dX6_way_212 (by decide) ?_
                      exact r_iretp X M dX6_way_220 ⟨by unfold s_way; rw [if_pos (by omega), if_neg (by omega), if_pos (by omega)]; first | (rw [if_pos (by omega), show (((wUp V k m h w).toNat : Nat) : Int) = wUp V k m h w by omega]; done) | (rw [if_neg (by omega)]; done), h1.up hM⟩
                  · refine r_aload0 X dX6_way_145 ?_
                    refine r_iload1 X dX6_way_146 ?_
                    refine r_iload6 X dX6_way_147 ?_
                    refine r_callVi (n := 2) X (c_X6_x l X.2.2.1 _ _ _ ⟨by omega, by omega⟩ ⟨by omega, by omega⟩ V (h1.up hM).1) dX6_way_149 tw_735 tw_737 tw_29 tw_46 tw_738 z_c80 (by decide) rfl rfl (Nat.le_of_ble_eq_true rfl) ⟨by decide, by decide⟩ (by decide +kernel) rfl ?_
                    refine r_goto (tgt := 162) X dX6_way_152 (by decide) ?_
                    refine r_eqi (y := wB V k m w) (by unfold wB; first | (rw [if_pos (by omega)]; done) | (rw [if_neg (by omega)]; done)) ?_
                    refine r_istore8 X dX6_way_162 ?_
                    refine r_iconst X dX6_way_164 ?_
                    refine r_aload0 X dX6_way_165 ?_
                    refine r_get X 2 dX6_way_166 z_c80 in_X6 tw_560 (by decide) rfl rfl (by decide) ?_
                    refine r_iconst X dX6_way_169 ?_
                    refine r_iload1 X dX6_way_170 ?_
                    refine r_imul X dX6_way_171 ?_
                    refine r_iald X dX6_way_172 z_c83 (by decide) ⟨by omega, by omega⟩ ?_
                    refine r_eqi (y := vc V k) ((h1.up hM).1.2.2.1 _ (by omega) (by omega)) ?_
                    refine r_imul X dX6_way_173 ?_
                    refine r_istore9 X dX6_way_174 ?_
                    refine r_iload9 X dX6_way_176 ?_
                    refine r_iload7 X dX6_way_178 ?_
                    refine r_imul X dX6_way_180 ?_
                    refine r_iload3 X dX6_way_181 ?_
                    refine r_iload8 X dX6_way_182 ?_
                    refine r_iload7 X dX6_way_184 ?_
                    refine r_isub X dX6_way_186 ?_
                    refine r_imul X dX6_way_187 ?_
                    refine r_iadd X dX6_way_188 ?_
                    refine r_eqi (y := (((wUp V k m h w).toNat : Nat) : Int)) (by rw [show (((wUp V k m h w).toNat : Nat) : Int) = wUp V k m h w by omega]; rfl) ?_
                    refine r_istore10 X dX6_way_189 ?_
                    refine r_iload10 X dX6_way_191 ?_
                    refine r_iload9 X dX6_way_193 ?_
                    refine r_eqi (y := (((2 * vc V k).toNat : Nat) : Int)) (by omega) ?_
                    refine r_callSi (n := 2) X (c_X6_divisor l X.2.2.1 _ (wUp V k m h w).toNat (2 * vc V k).toNat (by omega) (by omega)) dX6_way_195 tw_770 tw_771 tw_46 tw_772 rfl (Nat.le_of_ble_eq_true rfl) ⟨by decide, by decide⟩ (by decide +kernel) rfl ?_
                    refine r_istore11 X dX6_way_198 ?_
                    have hgp : 0 < Nat.gcd (wUp V k m h w).toNat (2 * vc V k).toNat := Nat.gcd_pos_of_pos_right _ (by omega)
                    have hgl : Nat.gcd (wUp V k m h w).toNat (2 * vc V k).toNat ≤ (2 * vc V k).toNat := Nat.gcd_le_right _ (by omega)
                    refine r_iload4 X dX6_way_200 ?_
                    refine r_iconst X dX6_way_202 ?_
                    refine r_irem X dX6_way_203 ⟨⟨by omega, by omega⟩, by omega, by omega⟩ ?_
                    refine r_if_ne (tgt := 215) X dX6_way_204 ⟨by omega, by omega⟩ (fun h204 => ?_) (fun h204 => ?_)
                    · refine r_iload9 X dX6_way_215 ?_
                      refine r_iload11 X dX6_way_217 ?_
                      refine r_idiv X dX6_way_219 ⟨⟨by omega, by omega⟩, by omega, by omega⟩ ?_
                      exact r_iretp X M dX6_way_220 ⟨by unfold s_way; rw [if_pos (by omega), if_neg (by omega), if_pos (by omega)]; first | (rw [if_pos (by omega), show (((wUp V k m h w).toNat : Nat) : Int) = wUp V k m h w by omega]; done) | (rw [if_neg (by omega)]; done), h1.up hM⟩
                    · refine r_iload10 X dX6_way_207 ?_
                      refine r_iload11 X dX6_way_209 ?_
                      refine r_idiv X dX6_way_211 ⟨⟨by omega, by omega⟩, by omega, by omega⟩ ?_
                      refine r_goto (tgt := 220) X dX6_way_212 (by decide) ?_
                      exact r_iretp X M dX6_way_220 ⟨by unfold s_way; rw [if_pos (by omega), if_neg (by omega), if_pos (by omega)]; first | (rw [if_pos (by omega), show (((wUp V k m h w).toNat : Nat) : Int) = wUp V k m h w by omega]; done) | (rw [if_neg (by omega)]; done), h1.up hM⟩
              · refine r_bipush X dX6_way_79 (by decide +kernel) ?_
                exact r_iretp X M dX6_way_81 ⟨by unfold s_way; (repeat' split) <;> omega, by first | exact h1.up hM | exact zMup.refl hM⟩
            · refine r_bipush X dX6_way_63 (by decide +kernel) ?_
              exact r_iretp X M dX6_way_65 ⟨by unfold s_way; (repeat' split) <;> omega, by first | exact h1.up hM | exact zMup.refl hM⟩
          · refine r_iconst X dX6_way_53 ?_
            exact r_iretp X M dX6_way_54 ⟨by unfold s_way; (repeat' split) <;> omega, by first | exact h1.up hM | exact zMup.refl hM⟩

set_option maxRecDepth 100000 in
set_option maxHeartbeats 4000000 in
theorem c_X6_ready (l : Launch) {D : va_G} {κ : Nat → ClassId} {a : Nat → Nat} {A : Nat → Prop} (hA : z_aD a A) (σ : zSt) (V : zV) (hV : v_ok V) (hM : zModel σ V) (hW : zWho σ) : z_Tp l D κ a A yX6_ready cX6_ready 2 (some .int) 6 [.ref (a 80)] σ (fun z σ' => z = v_rdy V (V 1).toNat ∧ zMup σ σ' V) := by
  refine z_Tp_of (cc := cX6_ready) (maxL := 2) (ret := (some .int)) (own := RX6) (lv0 := [some (.ref (a 80)), none]) hA (by decide) rfl (Nat.le_of_ble_eq_true rfl) rfl ?_
  intro pg e s mm below meth c X M
  obtain ⟨⟨hv0, hv1, hv2, hv3, hv4, hv5⟩, hvm, hvb, hvk, hvc, hvd⟩ := id hV
  have e0 := hM.1 0 (by omega) (by omega)
  have e1 := hM.1 1 (by omega) (by omega)
  refine r_aload0 X dX6_ready_0 ?_
  refine r_callVq (n := 0) X (c_X6_findAll l X.2.2.1 _ V hV hM hW) dX6_ready_1 tw_715 tw_717 tw_24 tw_46 tw_718 z_c80 (by decide) rfl rfl (Nat.le_of_ble_eq_true rfl) ⟨by decide, by decide⟩ (by decide +kernel) rfl (fun σ1 h1 => ?_)
  refine r_iconst X dX6_ready_4 ?_
  refine r_istore1 X dX6_ready_5 ?_
  have L : ∀ (fu : Nat) (i : Int), (V 1 - i) < (fu : Int) → 0 ≤ i → i ≤ V 1 → (∀ j : Nat, j < i.toNat → (vS V j).1 = 1) → z_G pg l e (z_rm 6) s mm ([.ref (a 80)] : List Value).toArray below meth c 2 D κ a A 0 0 (MQ below (z_Qp D κ a A (fun z σ' => z = v_rdy V (V 1).toNat ∧ zMup σ σ' V)) ([.ref (a 80)] : List Value).toArray s 0 0 A) σ1 [some (.ref (a 80)), some (.int (zI i))] 6 [] := by
    intro fu
    induction fu with
    | zero =>
      intro i hn i0 i1 hall
      omega
    | succ fu ihL =>
      intro i hn i0 i1 hall
      refine r_iload1 X dX6_ready_6 ?_
      refine r_aload0 X dX6_ready_7 ?_
      refine r_get X 0 dX6_ready_8 z_c80 in_X6 tw_558 (by decide) rfl rfl (by decide) ?_
      refine r_iconst X dX6_ready_11 ?_
      refine r_iald X dX6_ready_12 z_c81 (by decide) ⟨by omega, by omega⟩ ?_
      refine r_eqi ((h1.up hM).1.1 1 (by omega) (by omega)) ?_
      refine r_icmp_ge (tgt := 31) X dX6_ready_13 ⟨⟨by omega, by omega⟩, by omega, by omega⟩ (fun h13 => ?_) (fun h13 => ?_)
      · refine r_iload1 X dX6_ready_31 ?_
        exact r_iretp X M dX6_ready_32 ⟨by first | (rw [show (V 1).toNat = i.toNat by omega, v_rdy_all i.toNat (fun j hj => hall j hj)]; omega) | (rw [show (V 1).toNat = i.toNat + ((V 1).toNat - i.toNat) by omega, v_rdy_end hV (n := i.toNat) h22, v_rdy_all i.toNat (fun j hj => hall j hj)]; omega), h1.up hM⟩
      · have h01 := vfd_01 hV (k := i) (by omega)
        refine r_aload0 X dX6_ready_16 ?_
        refine r_get X 10 dX6_ready_17 z_c80 in_X6 tw_568 (by decide) rfl rfl (by decide) ?_
        refine r_iload1 X dX6_ready_20 ?_
        refine r_zald X dX6_ready_21 z_c89 (by decide) ⟨by omega, by omega⟩ ?_
        refine r_eqi (h1.set (k := i) (by omega) (by omega)) ?_
        refine r_if_eq (tgt := 31) X dX6_ready_22 ⟨by omega, by omega⟩ (fun h22 => ?_) (fun h22 => ?_)
        · refine r_iload1 X dX6_ready_31 ?_
          exact r_iretp X M dX6_ready_32 ⟨by first | (rw [show (V 1).toNat = i.toNat by omega, v_rdy_all i.toNat (fun j hj => hall j hj)]; omega) | (rw [show (V 1).toNat = i.toNat + ((V 1).toNat - i.toNat) by omega, v_rdy_end hV (n := i.toNat) h22, v_rdy_all i.toNat (fun j hj => hall j hj)]; omega), h1.up hM⟩
        · refine r_iinc1 X dX6_ready_25 ?_
          refine r_goto (tgt := 6) X dX6_ready_28 (by decide) ?_
          exact ihL (i + 1) (by omega) (by omega) (by omega) (fun j hj => by by_cases e : j = i.toNat; (rw [e]; have h9 : (vS V i.toNat).1 ≠ 0 := h22; have h8 : (vS V i.toNat).1 = 0 ∨ (vS V i.toNat).1 = 1 := h01; omega); exact hall j (by omega))
  exact L 8 0 (by omega) (by omega) (by omega) (fun j hj => by omega)

