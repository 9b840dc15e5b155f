set_option maxRecDepth 100000 in
set_option maxHeartbeats 4000000 in
theorem c_X5_marcher (l : Launch) {D : va_G} {κ : Nat → ClassId} {a : Nat → Nat} {A : Nat → Prop} (hA : z_aD a A) (σ : zSt) (b : Int) (hb : z_in b) (V : zV) (hV : v_ok V) (hS : zShow σ 1 V) (hk : 0 ≤ σ 52 5 ∧ σ 52 5 ≤ 5) : z_Tp l D κ a A yX5_marcher cX5_marcher 3 (some .int) 2 [.ref (a 0), .int (zI b)] σ (fun z σ' => z = s_marcher V b ∧ zCup σ σ' V (z_if z V (u_marcher V b)) (0)) := by
  refine z_Tp_of (cc := cX5_marcher) (maxL := 3) (ret := (some .int)) (own := RX5) (lv0 := [some (.ref (a 0)), some (.int (zI b)), none]) hA (by decide) rfl (Nat.le_of_ble_eq_true rfl) rfl ?_
  intro p e s mm below meth c X M
  obtain ⟨⟨hv0, hv1, hv2, hv3, hv4, hv5⟩, hvm, hvb, hvk, hvc, hvd⟩ := hV
  obtain ⟨⟨f0, f1, f2, f3, f4, f5⟩, hm, hp⟩ := id hS
  refine r_iload1 X dX5_marcher_0 ?_
  refine r_iconst X dX5_marcher_1 ?_
  refine r_iconst X dX5_marcher_2 ?_
  refine r_callSi (n := 3) X (c_X5_isOutside l X.2.2.1 _ _ _ _ ⟨by omega, by omega⟩ ⟨by omega, by omega⟩ ⟨by omega, by omega⟩) dX5_marcher_3 tw_259 tw_260 tw_40 tw_261 rfl (Nat.le_of_ble_eq_true rfl) ⟨by decide, by decide⟩ (by decide +kernel) rfl ?_
  refine r_if_eqB (tgt := 11) X dX5_marcher_6 (fun h6 => ?_) (fun h6 => ?_)
  · refine r_aload0 X dX5_marcher_11 ?_
    refine r_get X 0 dX5_marcher_12 z_c0 in_X5 tw_236 (by decide) rfl rfl (by decide) ?_
    refine r_get X 2 dX5_marcher_15 (z_cShow (Or.inl rfl)) in_X4 tw_103 (by omega) rfl rfl (by decide) ?_
    refine r_eqi (y := V 0) (by (repeat rw [z_up_c (by omega)]); exact f0) ?_
    refine r_bipush X dX5_marcher_18 (by decide +kernel) ?_
    refine r_icmp_lt (tgt := 26) X dX5_marcher_20 ⟨⟨by omega, by omega⟩, by omega, by omega⟩ (fun h20 => ?_) (fun h20 => ?_)
    · refine r_aload0 X dX5_marcher_26 ?_
      refine r_get X 0 dX5_marcher_27 z_c0 in_X5 tw_236 (by decide) rfl rfl (by decide) ?_
      refine r_get X 2 dX5_marcher_30 (z_cShow (Or.inl rfl)) in_X4 tw_103 (by omega) rfl rfl (by decide) ?_
      refine r_eqi (y := V 0) (by (repeat rw [z_up_c (by omega)]); exact f0) ?_
      refine r_istore2 X dX5_marcher_33 ?_
      refine r_aload0 X dX5_marcher_34 ?_
      refine r_get X 0 dX5_marcher_35 z_c0 in_X5 tw_236 (by decide) rfl rfl (by decide) ?_
      refine r_get X 0 dX5_marcher_38 (z_cShow (Or.inl rfl)) in_X4 tw_98 (by omega) rfl rfl (by decide) ?_
      refine r_iload2 X dX5_marcher_41 ?_
      refine r_iload1 X dX5_marcher_42 ?_
      refine r_iast X dX5_marcher_43 (z_cShow1 (Or.inl rfl)) (by omega) ⟨by omega, by omega⟩ ?_
      refine r_aload0 X dX5_marcher_44 ?_
      refine r_get X 0 dX5_marcher_45 z_c0 in_X5 tw_236 (by decide) rfl rfl (by decide) ?_
      refine r_get X 1 dX5_marcher_48 (z_cShow (Or.inl rfl)) in_X4 tw_102 (by omega) rfl rfl (by decide) ?_
      refine r_iload2 X dX5_marcher_51 ?_
      refine r_iconst X dX5_marcher_52 ?_
      refine r_zast X dX5_marcher_53 (z_cShow2 (Or.inl rfl)) (by omega) ⟨by omega, by omega⟩ (by omega) ?_
      refine r_aload0 X dX5_marcher_54 ?_
      refine r_get X 0 dX5_marcher_55 z_c0 in_X5 tw_236 (by decide) rfl rfl (by decide) ?_
      refine r_iload2 X dX5_marcher_58 ?_
      refine r_iconst X dX5_marcher_59 ?_
      refine r_iadd X dX5_marcher_60 ?_
      refine r_put (ty := .int) X 2 2 dX5_marcher_61 (z_cShow (Or.inl rfl)) in_X4 tw_103 tyX4 tyX4_ok nmX4 (by omega) rfl (by decide) rfl (by decide +kernel) rfl rfl (fun _ _ => rfl) (Nat.le_of_ble_eq_true rfl) ?_
      refine r_aload0 X dX5_marcher_64 ?_
      refine r_get X 4 dX5_marcher_65 z_c0 in_X5 tw_240 (by decide) rfl rfl (by decide) ?_
      refine r_iconst X dX5_marcher_68 ?_
      refine r_callVv (n := 1) X (c_X1_forgetFrom l X.2.2.1 _ 52 (Or.inl rfl) _ ⟨by omega, by omega⟩ (by (repeat rw [z_up_c (by omega)]); exact ⟨by omega, by omega⟩)) dX5_marcher_69 tw_262 tw_263 tw_264 tw_45 tw_265 (z_cPlan (Or.inl rfl)) (by omega) rfl rfl (Nat.le_of_ble_eq_true rfl) ⟨by decide, by decide⟩ (by decide +kernel) rfl ?_
      refine r_iload2 X dX5_marcher_72 ?_
      exact r_iretp X M dX5_marcher_73 ⟨by unfold s_marcher; (repeat' split) <;> omega, by rw [zIf_p (by omega)]; exact ⟨((((zC0.refl hS).bd b (by omega) (by omega)).il 0 (by omega) (by omega)).f2 (V 0 + 1)).us 5 _ (by unfold zFr; omega) (by omega), zKn_min (by repeat rw [z_up_c (by omega)]) hk.1 (by omega)⟩⟩
    · refine r_bipush X dX5_marcher_23 (by decide +kernel) ?_
      exact r_iretp X M dX5_marcher_25 ⟨by unfold s_marcher; (repeat' split) <;> omega, by rw [zIf_n (by omega)]; exact zCup.refl hS hk.1 _⟩
  · refine r_iconst X dX5_marcher_9 ?_
    exact r_iretp X M dX5_marcher_10 ⟨by unfold s_marcher; (repeat' split) <;> omega, by rw [zIf_n (by omega)]; exact zCup.refl hS hk.1 _⟩

set_option maxRecDepth 100000 in
set_option maxHeartbeats 4000000 in
theorem c_X5_picture (l : Launch) {D : va_G} {κ : Nat → ClassId} {a : Nat → Nat} {A : Nat → Prop} (hA : z_aD a A) (σ : zSt) (b : Int) (hb : z_in b) (V : zV) (hV : v_ok V) (hS : zShow σ 1 V) (hk : 0 ≤ σ 52 5 ∧ σ 52 5 ≤ 5) : z_Tp l D κ a A yX5_picture cX5_picture 3 (some .int) 2 [.ref (a 0), .int (zI b)] σ (fun z σ' => z = s_picture V b ∧ zCup σ σ' V (z_if z V (u_picture V b)) (V 1)) := by
  refine z_Tp_of (cc := cX5_picture) (maxL := 3) (ret := (some .int)) (own := RX5) (lv0 := [some (.ref (a 0)), some (.int (zI b)), none]) hA (by decide) rfl (Nat.le_of_ble_eq_true rfl) rfl ?_
  intro p e s mm below meth c X M
  obtain ⟨⟨hv0, hv1, hv2, hv3, hv4, hv5⟩, hvm, hvb, hvk, hvc, hvd⟩ := hV
  obtain ⟨⟨f0, f1, f2, f3, f4, f5⟩, hm, hp⟩ := id hS
  refine r_iload1 X dX5_picture_0 ?_
  refine r_iconst X dX5_picture_1 ?_
  refine r_bipush X dX5_picture_2 (by decide +kernel) ?_
  refine r_callSi (n := 3) X (c_X5_isOutside l X.2.2.1 _ _ _ _ ⟨by omega, by omega⟩ ⟨by omega, by omega⟩ ⟨by omega, by omega⟩) dX5_picture_4 tw_259 tw_260 tw_40 tw_261 rfl (Nat.le_of_ble_eq_true rfl) ⟨by decide, by decide⟩ (by decide +kernel) rfl ?_
  refine r_if_eqB (tgt := 12) X dX5_picture_7 (fun h7 => ?_) (fun h7 => ?_)
  · refine r_aload0 X dX5_picture_12 ?_
    refine r_get X 0 dX5_picture_13 z_c0 in_X5 tw_236 (by decide) rfl rfl (by decide) ?_
    refine r_get X 4 dX5_picture_16 (z_cShow (Or.inl rfl)) in_X4 tw_112 (by omega) rfl rfl (by decide) ?_
    refine r_eqi (y := V 1) (by (repeat rw [z_up_c (by omega)]); exact f1) ?_
    refine r_iconst X dX5_picture_19 ?_
    refine r_icmp_lt (tgt := 26) X dX5_picture_20 ⟨⟨by omega, by omega⟩, by omega, by omega⟩ (fun h20 => ?_) (fun h20 => ?_)
    · obtain ⟨K, hK0⟩ : ∃ K : Nat, V 1 = (K : Int) := ⟨(V 1).toNat, by omega⟩
      have hK : K < 5 := by omega
      refine r_aload0 X dX5_picture_26 ?_
      refine r_get X 0 dX5_picture_27 z_c0 in_X5 tw_236 (by decide) rfl rfl (by decide) ?_
      refine r_get X 4 dX5_picture_30 (z_cShow (Or.inl rfl)) in_X4 tw_112 (by omega) rfl rfl (by decide) ?_
      refine r_eqi (y := V 1) (by (repeat rw [z_up_c (by omega)]); exact f1) ?_
      refine r_istore2 X dX5_picture_33 ?_
      rw [hK0]
      refine r_aload0 X dX5_picture_34 ?_
      refine r_get X 0 dX5_picture_35 z_c0 in_X5 tw_236 (by decide) rfl rfl (by decide) ?_
      refine r_get X 3 dX5_picture_38 (z_cShow (Or.inl rfl)) in_X4 tw_108 (by omega) rfl rfl (by decide) ?_
      refine r_iload2 X dX5_picture_41 ?_
      refine r_aald (k := K) X dX5_picture_42 (Or.inl rfl) hK ?_
      refine r_iload1 X dX5_picture_43 ?_
      refine r_callVv (n := 1) X (c_X0_begin l X.2.2.1 _ _ (z_pic.mk (Or.inl rfl) hK) _) dX5_picture_44 tw_285 tw_286 tw_287 tw_42 tw_288 (z_cPic (z_pic.mk (Or.inl rfl) hK)) (by have := z_pic.lt (z_pic.mk (Or.inl rfl) hK); omega) rfl rfl (Nat.le_of_ble_eq_true rfl) ⟨by decide, by decide⟩ (by decide +kernel) rfl ?_
      refine r_aload0 X dX5_picture_47 ?_
      refine r_get X 0 dX5_picture_48 z_c0 in_X5 tw_236 (by decide) rfl rfl (by decide) ?_
      refine r_iload2 X dX5_picture_51 ?_
      refine r_iconst X dX5_picture_52 ?_
      refine r_iadd X dX5_picture_53 ?_
      refine r_put (ty := .int) X 4 4 dX5_picture_54 (z_cShow (Or.inl rfl)) in_X4 tw_112 tyX4 tyX4_ok nmX4 (by omega) rfl (by decide) rfl (by decide +kernel) rfl rfl (fun _ _ => rfl) (Nat.le_of_ble_eq_true rfl) ?_
      refine r_aload0 X dX5_picture_57 ?_
      refine r_get X 4 dX5_picture_58 z_c0 in_X5 tw_240 (by decide) rfl rfl (by decide) ?_
      refine r_iload2 X dX5_picture_61 ?_
      refine r_callVv (n := 1) X (c_X1_forgetFrom l X.2.2.1 _ 52 (Or.inl rfl) _ ⟨by omega, by omega⟩ (by (repeat rw [z_up_c (by omega)]); exact ⟨by omega, by omega⟩)) dX5_picture_62 tw_262 tw_263 tw_264 tw_45 tw_265 (z_cPlan (Or.inl rfl)) (by omega) rfl rfl (Nat.le_of_ble_eq_true rfl) ⟨by decide, by decide⟩ (by decide +kernel) rfl ?_
      have hcnt : ∀ k : Nat, k < 5 → (k : Int) < (K : Int) + 1 → (z_up (z_up σ (1 + 4 + 4 * K) 4 b) (1 + 4 + 4 * K) 3 0) (1 + 4 + 4 * k) 4 = z_upf (z_upf V (18 + 2 * (K : Int)) b) (18 + (2 * (K : Int) + 1)) 0 (18 + 2 * (k : Int)) := by
        intro k k1 k2
        have q := hp k k1
        rw [z_up_a, if_neg (by omega), z_up_a]
        by_cases e : k = K
        · subst e
          rw [if_pos ⟨rfl, rfl⟩, z_upf_n (by omega), z_upf_s]
        · rw [if_neg (by omega), z_upf_n (by omega), z_upf_n (by omega)]
          exact q.2.1 (by omega)
      refine r_iload2 X dX5_picture_65 ?_
      exact r_iretp X M dX5_picture_66 ⟨by unfold s_picture; (repeat' split) <;> omega, by rw [zIf_p (by omega)]; exact ⟨((((zC0.refl hS).pc b hK).pd 0 hK).f4 ((K : Int) + 1) hcnt).us 5 _ (by unfold zFr; omega) (by omega) |>.eq (by unfold u_picture; rw [hK0]), zKn_min (by repeat rw [z_up_c (by omega)]) hk.1 (by omega)⟩⟩
    · refine r_bipush X dX5_picture_23 (by decide +kernel) ?_
      exact r_iretp X M dX5_picture_25 ⟨by unfold s_picture; (repeat' split) <;> omega, by rw [zIf_n (by omega)]; exact zCup.refl hS hk.1 _⟩
  · refine r_iconst X dX5_picture_10 ?_
    exact r_iretp X M dX5_picture_11 ⟨by unfold s_picture; (repeat' split) <;> omega, by rw [zIf_n (by omega)]; exact zCup.refl hS hk.1 _⟩

set_option maxRecDepth 100000 in
set_option maxHeartbeats 4000000 in
theorem c_X5_ill (l : Launch) {D : va_G} {κ : Nat → ClassId} {a : Nat → Nat} {A : Nat → Prop} (hA : z_aD a A) (σ : zSt) (m i : Int) (hmm : z_in m) (hi : i = 0 ∨ i = 1) (V : zV) (hV : v_ok V) (hS : zShow σ 1 V) (hk : 0 ≤ σ 52 5 ∧ σ 52 5 ≤ 5) : z_Tp l D κ a A yX5_ill cX5_ill 3 (some .int) 2 [.ref (a 0), .int (zI m), .int (zI i)] σ (fun z σ' => z = s_ill V m i ∧ zCup σ σ' V (z_if z V (u_ill V m i)) (0)) := by
  refine z_Tp_of (cc := cX5_ill) (maxL := 3) (ret := (some .int)) (own := RX5) (lv0 := [some (.ref (a 0)), some (.int (zI m)), some (.int (zI i))]) hA (by decide) rfl (Nat.le_of_ble_eq_true rfl) rfl ?_
  intro p e s mm below meth c X M
  obtain ⟨⟨hv0, hv1, hv2, hv3, hv4, hv5⟩, hvm, hvb, hvk, hvc, hvd⟩ := hV
  obtain ⟨⟨f0, f1, f2, f3, f4, f5⟩, hm, hp⟩ := id hS
  refine r_aload0 X dX5_ill_0 ?_
  refine r_get X 0 dX5_ill_1 z_c0 in_X5 tw_236 (by decide) rfl rfl (by decide) ?_
  refine r_iload1 X dX5_ill_4 ?_
  refine r_callVi (n := 1) X (c_X4_hasMarcher l X.2.2.1 _ 1 (Or.inl rfl) _ ⟨by omega, by omega⟩ ⟨by omega, by omega⟩) dX5_ill_5 tw_273 tw_274 tw_275 tw_41 tw_276 (z_cShow (Or.inl rfl)) (by omega) rfl rfl (Nat.le_of_ble_eq_true rfl) ⟨by decide, by decide⟩ (by decide +kernel) rfl ?_
  refine r_if_neB (tgt := 13) X dX5_ill_8 (fun h8 => ?_) (fun h8 => ?_)
  · have qm := hm m (by omega) (by omega)
    have q1 := hvm m (by omega) (by omega)
    rw [show 7 + 2 * m = 6 + (2 * m + 1) by omega] at q1
    refine r_aload0 X dX5_ill_13 ?_
    refine r_get X 0 dX5_ill_14 z_c0 in_X5 tw_236 (by decide) rfl rfl (by decide) ?_
    refine r_get X 1 dX5_ill_17 (z_cShow (Or.inl rfl)) in_X4 tw_102 (by omega) rfl rfl (by decide) ?_
    refine r_iload1 X dX5_ill_20 ?_
    refine r_zald X dX5_ill_21 (z_cShow2 (Or.inl rfl)) (by omega) ⟨by omega, by omega⟩ ?_
    refine r_eqi (y := V (6 + (2 * m + 1))) (by (repeat rw [z_up_c (by omega)]); exact qm.2) ?_
    refine r_iload2 X dX5_ill_22 ?_
    refine r_icmp_ne (tgt := 28) X dX5_ill_23 ⟨⟨by omega, by omega⟩, by omega, by omega⟩ (fun h23 => ?_) (fun h23 => ?_)
    · refine r_aload0 X dX5_ill_28 ?_
      refine r_get X 0 dX5_ill_29 z_c0 in_X5 tw_236 (by decide) rfl rfl (by decide) ?_
      refine r_get X 1 dX5_ill_32 (z_cShow (Or.inl rfl)) in_X4 tw_102 (by omega) rfl rfl (by decide) ?_
      refine r_iload1 X dX5_ill_35 ?_
      refine r_iload2 X dX5_ill_36 ?_
      refine r_zast X dX5_ill_37 (z_cShow2 (Or.inl rfl)) (by omega) ⟨by omega, by omega⟩ (by omega) ?_
      refine r_aload0 X dX5_ill_38 ?_
      refine r_get X 4 dX5_ill_39 z_c0 in_X5 tw_240 (by decide) rfl rfl (by decide) ?_
      refine r_iconst X dX5_ill_42 ?_
      refine r_callVv (n := 1) X (c_X1_forgetFrom l X.2.2.1 _ 52 (Or.inl rfl) _ ⟨by omega, by omega⟩ (by (repeat rw [z_up_c (by omega)]); exact ⟨by omega, by omega⟩)) dX5_ill_43 tw_262 tw_263 tw_264 tw_45 tw_265 (z_cPlan (Or.inl rfl)) (by omega) rfl rfl (Nat.le_of_ble_eq_true rfl) ⟨by decide, by decide⟩ (by decide +kernel) rfl ?_
      refine r_iconst X dX5_ill_46 ?_
      exact r_iretp X M dX5_ill_47 ⟨by unfold s_ill; (repeat' split) <;> omega, by rw [zIf_p (by omega)]; exact ⟨((zC0.refl hS).il i (by omega) (by omega)).us 5 _ (by unfold zFr; omega) (by omega), zKn_min (by repeat rw [z_up_c (by omega)]) hk.1 (by omega)⟩⟩
    · refine r_iconst X dX5_ill_26 ?_
      exact r_iretp X M dX5_ill_27 ⟨by unfold s_ill; (repeat' split) <;> omega, by rw [zIf_p (by omega), show u_ill V m i = V from by unfold u_ill z_upf; funext j; split <;> simp_all]; exact zCup.refl hS hk.1 _⟩
  · refine r_iconst X dX5_ill_11 ?_
    exact r_iretp X M dX5_ill_12 ⟨by unfold s_ill; (repeat' split) <;> omega, by rw [zIf_n (by omega)]; exact zCup.refl hS hk.1 _⟩

set_option maxRecDepth 100000 in
set_option maxHeartbeats 4000000 in
theorem c_X5_bound (l : Launch) {D : va_G} {κ : Nat → ClassId} {a : Nat → Nat} {A : Nat → Prop} (hA : z_aD a A) (σ : zSt) (m v : Int) (hmm : z_in m) (hv : z_in v) (V : zV) (hV : v_ok V) (hS : zShow σ 1 V) (hk : 0 ≤ σ 52 5 ∧ σ 52 5 ≤ 5) : z_Tp l D κ a A yX5_bound cX5_bound 4 (some .int) 2 [.ref (a 0), .int (zI m), .int (zI v)] σ (fun z σ' => z = s_bound V m v ∧ zCup σ σ' V (z_if z V (u_bound V m v)) (1)) := by
  refine z_Tp_of (cc := cX5_bound) (maxL := 4) (ret := (some .int)) (own := RX5) (lv0 := [some (.ref (a 0)), some (.int (zI m)), some (.int (zI v)), none]) hA (by decide) rfl (Nat.le_of_ble_eq_true rfl) rfl ?_
  intro p e s mm below meth c X M
  obtain ⟨⟨hv0, hv1, hv2, hv3, hv4, hv5⟩, hvm, hvb, hvk, hvc, hvd⟩ := hV
  obtain ⟨⟨f0, f1, f2, f3, f4, f5⟩, hm, hp⟩ := id hS
  refine r_aload0 X dX5_bound_0 ?_
  refine r_get X 0 dX5_bound_1 z_c0 in_X5 tw_236 (by decide) rfl rfl (by decide) ?_
  refine r_iload1 X dX5_bound_4 ?_
  refine r_callVi (n := 1) X (c_X4_hasMarcher l X.2.2.1 _ 1 (Or.inl rfl) _ ⟨by omega, by omega⟩ ⟨by omega, by omega⟩) dX5_bound_5 tw_273 tw_274 tw_275 tw_41 tw_276 (z_cShow (Or.inl rfl)) (by omega) rfl rfl (Nat.le_of_ble_eq_true rfl) ⟨by decide, by decide⟩ (by decide +kernel) rfl ?_
  refine r_if_eqB (tgt := 20) X dX5_bound_8 (fun h8 => ?_) (fun h8 => ?_)
  · refine r_iconst X dX5_bound_20 ?_
    exact r_iretp X M dX5_bound_21 ⟨by unfold s_bound; (repeat' split) <;> omega, by rw [zIf_n (by omega)]; exact zCup.refl hS hk.1 _⟩
  · refine r_iload2 X dX5_bound_11 ?_
    refine r_iconst X dX5_bound_12 ?_
    refine r_iconst X dX5_bound_13 ?_
    refine r_callSi (n := 3) X (c_X5_isOutside l X.2.2.1 _ _ _ _ ⟨by omega, by omega⟩ ⟨by omega, by omega⟩ ⟨by omega, by omega⟩) dX5_bound_14 tw_259 tw_260 tw_40 tw_261 rfl (Nat.le_of_ble_eq_true rfl) ⟨by decide, by decide⟩ (by decide +kernel) rfl ?_
    refine r_if_eqB (tgt := 22) X dX5_bound_17 (fun h17 => ?_) (fun h17 => ?_)
    · have qm := hm m (by omega) (by omega)
      have q1 := hvm m (by omega) (by omega)
      refine r_aload0 X dX5_bound_22 ?_
      refine r_get X 0 dX5_bound_23 z_c0 in_X5 tw_236 (by decide) rfl rfl (by decide) ?_
      refine r_get X 0 dX5_bound_26 (z_cShow (Or.inl rfl)) in_X4 tw_98 (by omega) rfl rfl (by decide) ?_
      refine r_iload1 X dX5_bound_29 ?_
      refine r_iald X dX5_bound_30 (z_cShow1 (Or.inl rfl)) (by omega) ⟨by omega, by omega⟩ ?_
      refine r_eqi (y := V (6 + 2 * m)) (by (repeat rw [z_up_c (by omega)]); exact qm.1) ?_
      refine r_istore3 X dX5_bound_31 ?_
      refine r_aload0 X dX5_bound_32 ?_
      refine r_get X 0 dX5_bound_33 z_c0 in_X5 tw_236 (by decide) rfl rfl (by decide) ?_
      refine r_get X 0 dX5_bound_36 (z_cShow (Or.inl rfl)) in_X4 tw_98 (by omega) rfl rfl (by decide) ?_
      refine r_iload1 X dX5_bound_39 ?_
      refine r_iload2 X dX5_bound_40 ?_
      refine r_iast X dX5_bound_41 (z_cShow1 (Or.inl rfl)) (by omega) ⟨by omega, by omega⟩ ?_
      refine r_aload0 X dX5_bound_42 ?_
      refine r_get X 4 dX5_bound_43 z_c0 in_X5 tw_240 (by decide) rfl rfl (by decide) ?_
      refine r_iconst X dX5_bound_46 ?_
      refine r_callVv (n := 1) X (c_X1_forgetFrom l X.2.2.1 _ 52 (Or.inl rfl) _ ⟨by omega, by omega⟩ (by (repeat rw [z_up_c (by omega)]); exact ⟨by omega, by omega⟩)) dX5_bound_47 tw_262 tw_263 tw_264 tw_45 tw_265 (z_cPlan (Or.inl rfl)) (by omega) rfl rfl (Nat.le_of_ble_eq_true rfl) ⟨by decide, by decide⟩ (by decide +kernel) rfl ?_
      refine r_iload3 X dX5_bound_50 ?_
      exact r_iretp X M dX5_bound_51 ⟨by unfold s_bound; (repeat' split) <;> omega, by rw [zIf_p (by omega)]; exact ⟨((zC0.refl hS).bd v (by omega) (by omega)).us 5 _ (by unfold zFr; omega) (by omega), zKn_min (by repeat rw [z_up_c (by omega)]) hk.1 (by omega)⟩⟩
    · refine r_iconst X dX5_bound_20 ?_
      exact r_iretp X M dX5_bound_21 ⟨by unfold s_bound; (repeat' split) <;> omega, by rw [zIf_n (by omega)]; exact zCup.refl hS hk.1 _⟩

set_option maxRecDepth 100000 in
set_option maxHeartbeats 4000000 in
theorem c_X5_counts (l : Launch) {D : va_G} {κ : Nat → ClassId} {a : Nat → Nat} {A : Nat → Prop} (hA : z_aD a A) (σ : zSt) (k v : Int) (hk0 : z_in k) (hv : z_in v) (V : zV) (hV : v_ok V) (hS : zShow σ 1 V) (hk : 0 ≤ σ 52 5 ∧ σ 52 5 ≤ 5) : z_Tp l D κ a A yX5_counts cX5_counts 5 (some .int) 2 [.ref (a 0), .int (zI k), .int (zI v)] σ (fun z σ' => z = s_counts V k v ∧ zCup σ σ' V (z_if z V (u_counts V k v)) (k)) := by
  refine z_Tp_of (cc := cX5_counts) (maxL := 5) (ret := (some .int)) (own := RX5) (lv0 := [some (.ref (a 0)), some (.int (zI k)), some (.int (zI v)), none, none]) hA (by decide) rfl (Nat.le_of_ble_eq_true rfl) rfl ?_
  intro p e s mm below meth c X M
  obtain ⟨⟨hv0, hv1, hv2, hv3, hv4, hv5⟩, hvm, hvb, hvk, hvc, hvd⟩ := hV
  obtain ⟨⟨f0, f1, f2, f3, f4, f5⟩, hm, hp⟩ := id hS
  refine r_aload0 X dX5_counts_0 ?_
  refine r_get X 0 dX5_counts_1 z_c0 in_X5 tw_236 (by decide) rfl rfl (by decide) ?_
  refine r_iload1 X dX5_counts_4 ?_
  refine r_callVi (n := 1) X (c_X4_hasPicture l X.2.2.1 _ 1 (Or.inl rfl) _ ⟨by omega, by omega⟩ ⟨by omega, by omega⟩) dX5_counts_5 tw_293 tw_294 tw_295 tw_41 tw_296 (z_cShow (Or.inl rfl)) (by omega) rfl rfl (Nat.le_of_ble_eq_true rfl) ⟨by decide, by decide⟩ (by decide +kernel) rfl ?_
  refine r_if_eqB (tgt := 21) X dX5_counts_8 (fun h8 => ?_) (fun h8 => ?_)
  · refine r_iconst X dX5_counts_21 ?_
    exact r_iretp X M dX5_counts_22 ⟨by unfold s_counts; (repeat' split) <;> omega, by rw [zIf_n (by omega)]; exact zCup.refl hS hk.1 _⟩
  · refine r_iload2 X dX5_counts_11 ?_
    refine r_iconst X dX5_counts_12 ?_
    refine r_bipush X dX5_counts_13 (by decide +kernel) ?_
    refine r_callSi (n := 3) X (c_X5_isOutside l X.2.2.1 _ _ _ _ ⟨by omega, by omega⟩ ⟨by omega, by omega⟩ ⟨by omega, by omega⟩) dX5_counts_15 tw_259 tw_260 tw_40 tw_261 rfl (Nat.le_of_ble_eq_true rfl) ⟨by decide, by decide⟩ (by decide +kernel) rfl ?_
    refine r_if_eqB (tgt := 23) X dX5_counts_18 (fun h18 => ?_) (fun h18 => ?_)
    · obtain ⟨K, rfl⟩ : ∃ K : Nat, k = (K : Int) := ⟨k.toNat, by omega⟩
      have hK : K < 5 := by omega
      have hpk := hp K hK
      have q1 := hvk K (by omega) (by omega)
      rw [show 19 + 2 * (K : Int) = 18 + (2 * (K : Int) + 1) by omega] at q1
      refine r_aload0 X dX5_counts_23 ?_
      refine r_get X 0 dX5_counts_24 z_c0 in_X5 tw_236 (by decide) rfl rfl (by decide) ?_
      refine r_get X 3 dX5_counts_27 (z_cShow (Or.inl rfl)) in_X4 tw_108 (by omega) rfl rfl (by decide) ?_
      refine r_iload1 X dX5_counts_30 ?_
      refine r_aald (k := K) X dX5_counts_31 (Or.inl rfl) hK ?_
      refine r_astore3 X dX5_counts_32 ?_
      refine r_aload3 X dX5_counts_33 ?_
      refine r_get X 4 dX5_counts_34 (z_cPic (z_pic.mk (Or.inl rfl) hK)) in_X0 tw_83 (by have := z_pic.lt (z_pic.mk (Or.inl rfl) hK); omega) rfl rfl (by decide) ?_
      refine r_eqi (y := V (18 + 2 * (K : Int))) (by (repeat rw [z_up_c (by omega)]); exact hpk.2.1 (by omega)) ?_
      refine r_istore4 X dX5_counts_37 ?_
      refine r_aload3 X dX5_counts_39 ?_
      refine r_iload2 X dX5_counts_40 ?_
      refine r_put (ty := .int) X 4 4 dX5_counts_41 (z_cPic (z_pic.mk (Or.inl rfl) hK)) in_X0 tw_83 tyX0 tyX0_ok nmX0 (by have := z_pic.lt (z_pic.mk (Or.inl rfl) hK); omega) rfl (by decide) rfl (by decide +kernel) rfl rfl (fun _ _ => rfl) (Nat.le_of_ble_eq_true rfl) ?_
      refine r_aload0 X dX5_counts_44 ?_
      refine r_get X 4 dX5_counts_45 z_c0 in_X5 tw_240 (by decide) rfl rfl (by decide) ?_
      refine r_iload1 X dX5_counts_48 ?_
      refine r_callVv (n := 1) X (c_X1_forgetFrom l X.2.2.1 _ 52 (Or.inl rfl) _ ⟨by omega, by omega⟩ (by (repeat rw [z_up_c (by omega)]); exact ⟨by omega, by omega⟩)) dX5_counts_49 tw_262 tw_263 tw_264 tw_45 tw_265 (z_cPlan (Or.inl rfl)) (by omega) rfl rfl (Nat.le_of_ble_eq_true rfl) ⟨by decide, by decide⟩ (by decide +kernel) rfl ?_
      refine r_iload4 X dX5_counts_52 ?_
      exact r_iretp X M dX5_counts_54 ⟨by unfold s_counts; (repeat' split) <;> omega, by rw [zIf_p (by omega)]; exact ⟨((zC0.refl hS).pc v hK).us 5 _ (by unfold zFr; omega) (by omega), zKn_min (by repeat rw [z_up_c (by omega)]) hk.1 (by omega)⟩⟩
    · refine r_iconst X dX5_counts_21 ?_
      exact r_iretp X M dX5_counts_22 ⟨by unfold s_counts; (repeat' split) <;> omega, by rw [zIf_n (by omega)]; exact zCup.refl hS hk.1 _⟩

set_option maxRecDepth 100000 in
set_option maxHeartbeats 4000000 in
theorem c_X5_scrub (l : Launch) {D : va_G} {κ : Nat → ClassId} {a : Nat → Nat} {A : Nat → Prop} (hA : z_aD a A) (σ : zSt) (k : Int) (hk0 : z_in k) (V : zV) (hV : v_ok V) (hS : zShow σ 1 V) (hk : 0 ≤ σ 52 5 ∧ σ 52 5 ≤ 5) : z_Tp l D κ a A yX5_scrub cX5_scrub 3 (some .int) 2 [.ref (a 0), .int (zI k)] σ (fun z σ' => z = s_scrub V k ∧ zCup σ σ' V (z_if z V (u_scrub V k)) (k)) := by
  refine z_Tp_of (cc := cX5_scrub) (maxL := 3) (ret := (some .int)) (own := RX5) (lv0 := [some (.ref (a 0)), some (.int (zI k)), none]) hA (by decide) rfl (Nat.le_of_ble_eq_true rfl) rfl ?_
  intro p e s mm below meth c X M
  obtain ⟨⟨hv0, hv1, hv2, hv3, hv4, hv5⟩, hvm, hvb, hvk, hvc, hvd⟩ := hV
  obtain ⟨⟨f0, f1, f2, f3, f4, f5⟩, hm, hp⟩ := id hS
  refine r_aload0 X dX5_scrub_0 ?_
  refine r_get X 0 dX5_scrub_1 z_c0 in_X5 tw_236 (by decide) rfl rfl (by decide) ?_
  refine r_iload1 X dX5_scrub_4 ?_
  refine r_callVi (n := 1) X (c_X4_hasPicture l X.2.2.1 _ 1 (Or.inl rfl) _ ⟨by omega, by omega⟩ ⟨by omega, by omega⟩) dX5_scrub_5 tw_293 tw_294 tw_295 tw_41 tw_296 (z_cShow (Or.inl rfl)) (by omega) rfl rfl (Nat.le_of_ble_eq_true rfl) ⟨by decide, by decide⟩ (by decide +kernel) rfl ?_
  refine r_if_neB (tgt := 13) X dX5_scrub_8 (fun h8 => ?_) (fun h8 => ?_)
  · obtain ⟨K, rfl⟩ : ∃ K : Nat, k = (K : Int) := ⟨k.toNat, by omega⟩
    have hK : K < 5 := by omega
    have hpk := hp K hK
    have q1 := hvk K (by omega) (by omega)
    rw [show 19 + 2 * (K : Int) = 18 + (2 * (K : Int) + 1) by omega] at q1
    refine r_aload0 X dX5_scrub_13 ?_
    refine r_get X 0 dX5_scrub_14 z_c0 in_X5 tw_236 (by decide) rfl rfl (by decide) ?_
    refine r_get X 3 dX5_scrub_17 (z_cShow (Or.inl rfl)) in_X4 tw_108 (by omega) rfl rfl (by decide) ?_
    refine r_iload1 X dX5_scrub_20 ?_
    refine r_aald (k := K) X dX5_scrub_21 (Or.inl rfl) hK ?_
    refine r_astore2 X dX5_scrub_22 ?_
    refine r_aload2 X dX5_scrub_23 ?_
    refine r_get X 3 dX5_scrub_24 (z_cPic (z_pic.mk (Or.inl rfl) hK)) in_X0 tw_80 (by have := z_pic.lt (z_pic.mk (Or.inl rfl) hK); omega) rfl rfl (by decide) ?_
    refine r_eqi (y := V (18 + (2 * (K : Int) + 1))) (by (repeat rw [z_up_c (by omega)]); exact hpk.1) ?_
    refine r_iconst X dX5_scrub_27 ?_
    refine r_icmp_ge (tgt := 34) X dX5_scrub_28 ⟨⟨by omega, by omega⟩, by omega, by omega⟩ (fun h28 => ?_) (fun h28 => ?_)
    · refine r_aload2 X dX5_scrub_34 ?_
      refine r_dup X dX5_scrub_35 rfl ?_
      refine r_get X 3 dX5_scrub_36 (z_cPic (z_pic.mk (Or.inl rfl) hK)) in_X0 tw_80 (by have := z_pic.lt (z_pic.mk (Or.inl rfl) hK); omega) rfl rfl (by decide) ?_
      refine r_eqi (y := V (18 + (2 * (K : Int) + 1))) (by (repeat rw [z_up_c (by omega)]); exact hpk.1) ?_
      refine r_iconst X dX5_scrub_39 ?_
      refine r_isub X dX5_scrub_40 ?_
      refine r_put (ty := .int) X 3 3 dX5_scrub_41 (z_cPic (z_pic.mk (Or.inl rfl) hK)) in_X0 tw_80 tyX0 tyX0_ok nmX0 (by have := z_pic.lt (z_pic.mk (Or.inl rfl) hK); omega) rfl (by decide) rfl (by decide +kernel) rfl rfl (fun _ _ => rfl) (Nat.le_of_ble_eq_true rfl) ?_
      refine r_aload0 X dX5_scrub_44 ?_
      refine r_get X 4 dX5_scrub_45 z_c0 in_X5 tw_240 (by decide) rfl rfl (by decide) ?_
      refine r_iload1 X dX5_scrub_48 ?_
      refine r_callVv (n := 1) X (c_X1_forgetFrom l X.2.2.1 _ 52 (Or.inl rfl) _ ⟨by omega, by omega⟩ (by (repeat rw [z_up_c (by omega)]); exact ⟨by omega, by omega⟩)) dX5_scrub_49 tw_262 tw_263 tw_264 tw_45 tw_265 (z_cPlan (Or.inl rfl)) (by omega) rfl rfl (Nat.le_of_ble_eq_true rfl) ⟨by decide, by decide⟩ (by decide +kernel) rfl ?_
      refine r_aload2 X dX5_scrub_52 ?_
      refine r_get X 3 dX5_scrub_53 (z_cPic (z_pic.mk (Or.inl rfl) hK)) in_X0 tw_80 (by have := z_pic.lt (z_pic.mk (Or.inl rfl) hK); omega) rfl rfl (by decide) ?_
      refine r_eqi (y := V (18 + (2 * (K : Int) + 1)) - 1) (by rw [z_up_c (by omega), z_up_s]) ?_
      exact r_iretp X M dX5_scrub_56 ⟨by unfold s_scrub; (repeat' split) <;> omega, by rw [zIf_p (by omega)]; exact ⟨((zC0.refl hS).pd _ hK).us 5 _ (by unfold zFr; omega) (by omega), zKn_min (by repeat rw [z_up_c (by omega)]) hk.1 (by omega)⟩⟩
    · refine r_bipush X dX5_scrub_31 (by decide +kernel) ?_
      exact r_iretp X M dX5_scrub_33 ⟨by unfold s_scrub; (repeat' split) <;> omega, by rw [zIf_n (by omega)]; exact zCup.refl hS hk.1 _⟩
  · refine r_iconst X dX5_scrub_11 ?_
    exact r_iretp X M dX5_scrub_12 ⟨by unfold s_scrub; (repeat' split) <;> omega, by rw [zIf_n (by omega)]; exact zCup.refl hS hk.1 _⟩

set_option maxRecDepth 100000 in
set_option maxHeartbeats 4000000 in
theorem c_X5_solo (l : Launch) {D : va_G} {κ : Nat → ClassId} {a : Nat → Nat} {A : Nat → Prop} (hA : z_aD a A) (σ : zSt) (k d i : Int) (hk0 : z_in k) (hd0 : z_in d) (hi : i = 0 ∨ i = 1) (V : zV) (hV : v_ok V) (hS : zShow σ 1 V) (hk : 0 ≤ σ 52 5 ∧ σ 52 5 ≤ 5) : z_Tp l D κ a A yX5_solo cX5_solo 5 (some .int) 2 [.ref (a 0), .int (zI k), .int (zI d), .int (zI i)] σ (fun z σ' => z = s_solo V k d i ∧ zCup σ σ' V (z_if z V (u_solo V k d i)) (k)) := by
  refine z_Tp_of (cc := cX5_solo) (maxL := 5) (ret := (some .int)) (own := RX5) (lv0 := [some (.ref (a 0)), some (.int (zI k)), some (.int (zI d)), some (.int (zI i)), none]) hA (by decide) rfl (Nat.le_of_ble_eq_true rfl) rfl ?_
  intro p e s mm below meth c X M
  obtain ⟨⟨hv0, hv1, hv2, hv3, hv4, hv5⟩, hvm, hvb, hvk, hvc, hvd⟩ := hV
  obtain ⟨⟨f0, f1, f2, f3, f4, f5⟩, hm, hp⟩ := id hS
  refine r_aload0 X dX5_solo_0 ?_
  refine r_get X 0 dX5_solo_1 z_c0 in_X5 tw_236 (by decide) rfl rfl (by decide) ?_
  refine r_iload1 X dX5_solo_4 ?_
  refine r_callVi (n := 1) X (c_X4_hasPicture l X.2.2.1 _ 1 (Or.inl rfl) _ ⟨by omega, by omega⟩ ⟨by omega, by omega⟩) dX5_solo_5 tw_293 tw_294 tw_295 tw_41 tw_296 (z_cShow (Or.inl rfl)) (by omega) rfl rfl (Nat.le_of_ble_eq_true rfl) ⟨by decide, by decide⟩ (by decide +kernel) rfl ?_
  refine r_if_eqB (tgt := 27) X dX5_solo_8 (fun h8 => ?_) (fun h8 => ?_)
  · refine r_iconst X dX5_solo_27 ?_
    exact r_iretp X M dX5_solo_28 ⟨by unfold s_solo; (repeat' split) <;> omega, by rw [zIf_n (by omega)]; exact zCup.refl hS hk.1 _⟩
  · obtain ⟨K, rfl⟩ : ∃ K : Nat, k = (K : Int) := ⟨k.toNat, by omega⟩
    have hK : K < 5 := by omega
    have hpk := hp K hK
    have q1 := hvk K (by omega) (by omega)
    rw [show 19 + 2 * (K : Int) = 18 + (2 * (K : Int) + 1) by omega] at q1
    refine r_aload0 X dX5_solo_11 ?_
    refine r_get X 0 dX5_solo_12 z_c0 in_X5 tw_236 (by decide) rfl rfl (by decide) ?_
    refine r_get X 3 dX5_solo_15 (z_cShow (Or.inl rfl)) in_X4 tw_108 (by omega) rfl rfl (by decide) ?_
    refine r_iload1 X dX5_solo_18 ?_
    refine r_aald (k := K) X dX5_solo_19 (Or.inl rfl) hK ?_
    refine r_iload2 X dX5_solo_20 ?_
    refine r_callVi (n := 1) X (c_X0_hasDot l X.2.2.1 _ _ (z_pic.mk (Or.inl rfl) hK) _ ⟨by omega, by omega⟩ ⟨by omega, by omega⟩) dX5_solo_21 tw_356 tw_357 tw_358 tw_42 tw_359 (z_cPic (z_pic.mk (Or.inl rfl) hK)) (by have := z_pic.lt (z_pic.mk (Or.inl rfl) hK); omega) rfl rfl (Nat.le_of_ble_eq_true rfl) ⟨by decide, by decide⟩ (by decide +kernel) rfl ?_
    refine r_if_neB (tgt := 29) X dX5_solo_24 (fun h24 => ?_) (fun h24 => ?_)
    · have qd := hpk.2.2 d (by omega) (by omega)
      have q3 := hvd (7 * (K : Int) + d) (by omega) (by omega)
      rw [show 29 + 3 * (7 * (K : Int) + d) = 28 + (3 * (7 * (K : Int) + d) + 1) by omega, show 30 + 3 * (7 * (K : Int) + d) = 28 + (3 * (7 * (K : Int) + d) + 2) by omega] at q3
      refine r_aload0 X dX5_solo_29 ?_
      refine r_get X 0 dX5_solo_30 z_c0 in_X5 tw_236 (by decide) rfl rfl (by decide) ?_
      refine r_get X 3 dX5_solo_33 (z_cShow (Or.inl rfl)) in_X4 tw_108 (by omega) rfl rfl (by decide) ?_
      refine r_iload1 X dX5_solo_36 ?_
      refine r_aald (k := K) X dX5_solo_37 (Or.inl rfl) hK ?_
      refine r_astore4 X dX5_solo_38 ?_
      refine r_aload4 X dX5_solo_40 ?_
      refine r_get X 2 dX5_solo_42 (z_cPic (z_pic.mk (Or.inl rfl) hK)) in_X0 tw_77 (by have := z_pic.lt (z_pic.mk (Or.inl rfl) hK); omega) rfl rfl (by decide) ?_
      refine r_iload2 X dX5_solo_45 ?_
      refine r_zald X dX5_solo_46 (z_cPic3 (z_pic.mk (Or.inl rfl) hK)) (by have := z_pic.lt (z_pic.mk (Or.inl rfl) hK); omega) ⟨by omega, by omega⟩ ?_
      refine r_eqi (y := V (28 + (3 * (7 * (K : Int) + d) + 2))) (by (repeat rw [z_up_c (by omega)]); exact qd.2.2) ?_
      refine r_iload3 X dX5_solo_47 ?_
      refine r_icmp_ne (tgt := 53) X dX5_solo_48 ⟨⟨by omega, by omega⟩, by omega, by omega⟩ (fun h48 => ?_) (fun h48 => ?_)
      · refine r_aload4 X dX5_solo_53 ?_
        refine r_get X 2 dX5_solo_55 (z_cPic (z_pic.mk (Or.inl rfl) hK)) in_X0 tw_77 (by have := z_pic.lt (z_pic.mk (Or.inl rfl) hK); omega) rfl rfl (by decide) ?_
        refine r_iload2 X dX5_solo_58 ?_
        refine r_iload3 X dX5_solo_59 ?_
        refine r_zast X dX5_solo_60 (z_cPic3 (z_pic.mk (Or.inl rfl) hK)) (by have := z_pic.lt (z_pic.mk (Or.inl rfl) hK); omega) ⟨by omega, by omega⟩ (by omega) ?_
        refine r_aload0 X dX5_solo_61 ?_
        refine r_get X 4 dX5_solo_62 z_c0 in_X5 tw_240 (by decide) rfl rfl (by decide) ?_
        refine r_iload1 X dX5_solo_65 ?_
        refine r_callVv (n := 1) X (c_X1_forgetFrom l X.2.2.1 _ 52 (Or.inl rfl) _ ⟨by omega, by omega⟩ (by (repeat rw [z_up_c (by omega)]); exact ⟨by omega, by omega⟩)) dX5_solo_66 tw_262 tw_263 tw_264 tw_45 tw_265 (z_cPlan (Or.inl rfl)) (by omega) rfl rfl (Nat.le_of_ble_eq_true rfl) ⟨by decide, by decide⟩ (by decide +kernel) rfl ?_
        refine r_iconst X dX5_solo_69 ?_
        exact r_iretp X M dX5_solo_70 ⟨by unfold s_solo; (repeat' split) <;> omega, by rw [zIf_p (by omega)]; exact ⟨((zC0.refl hS).s i hK (by omega) (by omega)).us 5 _ (by unfold zFr; omega) (by omega), zKn_min (by repeat rw [z_up_c (by omega)]) hk.1 (by omega)⟩⟩
      · refine r_iconst X dX5_solo_51 ?_
        exact r_iretp X M dX5_solo_52 ⟨by unfold s_solo; (repeat' split) <;> omega, by rw [zIf_p (by omega), show u_solo V (K : Int) d i = V from by unfold u_solo z_upf; funext j; split <;> simp_all]; exact zCup.refl hS hk.1 _⟩
    · refine r_iconst X dX5_solo_27 ?_
      exact r_iretp X M dX5_solo_28 ⟨by unfold s_solo; (repeat' split) <;> omega, by rw [zIf_n (by omega)]; exact zCup.refl hS hk.1 _⟩

set_option maxRecDepth 100000 in
set_option maxHeartbeats 4000000 in
theorem c_X5_rule (l : Launch) {D : va_G} {κ : Nat → ClassId} {a : Nat → Nat} {A : Nat → Prop} (hA : z_aD a A) (σ : zSt) (w v : Int) (hw : z_in w) (hv : z_in v) (V : zV) (hV : v_ok V) (hS : zShow σ 1 V) (hk : 0 ≤ σ 52 5 ∧ σ 52 5 ≤ 5) : z_Tp l D κ a A yX5_rule cX5_rule 4 (some .int) 2 [.ref (a 0), .int (zI w), .int (zI v)] σ (fun z σ' => z = s_rule V w v ∧ zCup σ σ' V (z_if z V (u_rule V w v)) (if w = 0 then 1 else 5)) := by
  refine z_Tp_of (cc := cX5_rule) (maxL := 4) (ret := (some .int)) (own := RX5) (lv0 := [some (.ref (a 0)), some (.int (zI w)), some (.int (zI v)), none]) hA (by decide) rfl (Nat.le_of_ble_eq_true rfl) rfl ?_
  intro p e s mm below meth c X M
  obtain ⟨⟨hv0, hv1, hv2, hv3, hv4, hv5⟩, hvm, hvb, hvk, hvc, hvd⟩ := hV
  obtain ⟨⟨f0, f1, f2, f3, f4, f5⟩, hm, hp⟩ := id hS
  refine r_iload1 X dX5_rule_0 ?_
  refine r_if_ne (tgt := 39) X dX5_rule_1 ⟨by omega, by omega⟩ (fun h1 => ?_) (fun h1 => ?_)
  · refine r_iload1 X dX5_rule_39 ?_
    refine r_iconst X dX5_rule_40 ?_
    refine r_icmp_ne (tgt := 72) X dX5_rule_41 ⟨⟨by omega, by omega⟩, by omega, by omega⟩ (fun h41 => ?_) (fun h41 => ?_)
    · refine r_iconst X dX5_rule_72 ?_
      exact r_iretp X M dX5_rule_73 ⟨by unfold s_rule; (repeat' split) <;> omega, by rw [zIf_n (by omega)]; exact zCup.refl hS hk.1 _⟩
    · refine r_iload2 X dX5_rule_44 ?_
      refine r_iconst X dX5_rule_45 ?_
      refine r_bipush X dX5_rule_46 (by decide +kernel) ?_
      refine r_callSi (n := 3) X (c_X5_isOutside l X.2.2.1 _ _ _ _ ⟨by omega, by omega⟩ ⟨by omega, by omega⟩ ⟨by omega, by omega⟩) dX5_rule_48 tw_259 tw_260 tw_40 tw_261 rfl (Nat.le_of_ble_eq_true rfl) ⟨by decide, by decide⟩ (by decide +kernel) rfl ?_
      refine r_if_neB (tgt := 72) X dX5_rule_51 (fun h51 => ?_) (fun h51 => ?_)
      · refine r_iconst X dX5_rule_72 ?_
        exact r_iretp X M dX5_rule_73 ⟨by unfold s_rule; (repeat' split) <;> omega, by rw [zIf_n (by omega)]; exact zCup.refl hS hk.1 _⟩
      · have hw0 : w = 1 := by omega
        subst hw0
        refine r_aload0 X dX5_rule_54 ?_
        refine r_get X 0 dX5_rule_55 z_c0 in_X5 tw_236 (by decide) rfl rfl (by decide) ?_
        refine r_get X 6 dX5_rule_58 (z_cShow (Or.inl rfl)) in_X4 tw_117 (by omega) rfl rfl (by decide) ?_
        refine r_eqi (y := V 3) (by (repeat rw [z_up_c (by omega)]); exact f3) ?_
        refine r_istore3 X dX5_rule_61 ?_
        refine r_aload0 X dX5_rule_62 ?_
        refine r_get X 0 dX5_rule_63 z_c0 in_X5 tw_236 (by decide) rfl rfl (by decide) ?_
        refine r_iload2 X dX5_rule_66 ?_
        refine r_put (ty := .int) X 6 6 dX5_rule_67 (z_cShow (Or.inl rfl)) in_X4 tw_117 tyX4 tyX4_ok nmX4 (by omega) rfl (by decide) rfl (by decide +kernel) rfl rfl (fun _ _ => rfl) (Nat.le_of_ble_eq_true rfl) ?_
        refine r_iload3 X dX5_rule_70 ?_
        exact r_iretp X M dX5_rule_71 ⟨by unfold s_rule; rw [if_pos (by omega)]; rfl, by rw [zIf_p (by omega), if_neg (by omega)]; exact ⟨((zC0.refl hS).f6 v), ⟨by rw [z_up_c (by omega)]; omega, by rw [z_up_c (by omega)]; omega⟩, Or.inl (by rw [z_up_c (by omega)]; omega)⟩⟩
  · refine r_iload2 X dX5_rule_4 ?_
    refine r_iconst X dX5_rule_5 ?_
    refine r_iconst X dX5_rule_6 ?_
    refine r_callSi (n := 3) X (c_X5_isOutside l X.2.2.1 _ _ _ _ ⟨by omega, by omega⟩ ⟨by omega, by omega⟩ ⟨by omega, by omega⟩) dX5_rule_7 tw_259 tw_260 tw_40 tw_261 rfl (Nat.le_of_ble_eq_true rfl) ⟨by decide, by decide⟩ (by decide +kernel) rfl ?_
    refine r_if_neB (tgt := 39) X dX5_rule_10 (fun h10 => ?_) (fun h10 => ?_)
    · refine r_iload1 X dX5_rule_39 ?_
      refine r_iconst X dX5_rule_40 ?_
      refine r_icmp_ne (tgt := 72) X dX5_rule_41 ⟨⟨by omega, by omega⟩, by omega, by omega⟩ (fun h41 => ?_) (fun h41 => ?_)
      · refine r_iconst X dX5_rule_72 ?_
        exact r_iretp X M dX5_rule_73 ⟨by unfold s_rule; (repeat' split) <;> omega, by rw [zIf_n (by omega)]; exact zCup.refl hS hk.1 _⟩
      · refine r_iload2 X dX5_rule_44 ?_
        refine r_iconst X dX5_rule_45 ?_
        refine r_bipush X dX5_rule_46 (by decide +kernel) ?_
        refine r_callSi (n := 3) X (c_X5_isOutside l X.2.2.1 _ _ _ _ ⟨by omega, by omega⟩ ⟨by omega, by omega⟩ ⟨by omega, by omega⟩) dX5_rule_48 tw_259 tw_260 tw_40 tw_261 rfl (Nat.le_of_ble_eq_true rfl) ⟨by decide, by decide⟩ (by decide +kernel) rfl ?_
        refine r_if_neB (tgt := 72) X dX5_rule_51 (fun h51 => ?_) (fun h51 => ?_)
        · refine r_iconst X dX5_rule_72 ?_
          exact r_iretp X M dX5_rule_73 ⟨by unfold s_rule; (repeat' split) <;> omega, by rw [zIf_n (by omega)]; exact zCup.refl hS hk.1 _⟩
        · have hw0 : w = 1 := by omega
          subst hw0
          refine r_aload0 X dX5_rule_54 ?_
          refine r_get X 0 dX5_rule_55 z_c0 in_X5 tw_236 (by decide) rfl rfl (by decide) ?_
          refine r_get X 6 dX5_rule_58 (z_cShow (Or.inl rfl)) in_X4 tw_117 (by omega) rfl rfl (by decide) ?_
          refine r_eqi (y := V 3) (by (repeat rw [z_up_c (by omega)]); exact f3) ?_
          refine r_istore3 X dX5_rule_61 ?_
          refine r_aload0 X dX5_rule_62 ?_
          refine r_get X 0 dX5_rule_63 z_c0 in_X5 tw_236 (by decide) rfl rfl (by decide) ?_
          refine r_iload2 X dX5_rule_66 ?_
          refine r_put (ty := .int) X 6 6 dX5_rule_67 (z_cShow (Or.inl rfl)) in_X4 tw_117 tyX4 tyX4_ok nmX4 (by omega) rfl (by decide) rfl (by decide +kernel) rfl rfl (fun _ _ => rfl) (Nat.le_of_ble_eq_true rfl) ?_
          refine r_iload3 X dX5_rule_70 ?_
          exact r_iretp X M dX5_rule_71 ⟨by unfold s_rule; rw [if_pos (by omega)]; rfl, by rw [zIf_p (by omega), if_neg (by omega)]; exact ⟨((zC0.refl hS).f6 v), ⟨by rw [z_up_c (by omega)]; omega, by rw [z_up_c (by omega)]; omega⟩, Or.inl (by rw [z_up_c (by omega)]; omega)⟩⟩
    · have hw0 : w = 0 := by omega
      subst hw0
      refine r_aload0 X dX5_rule_13 ?_
      refine r_get X 0 dX5_rule_14 z_c0 in_X5 tw_236 (by decide) rfl rfl (by decide) ?_
      refine r_get X 5 dX5_rule_17 (z_cShow (Or.inl rfl)) in_X4 tw_115 (by omega) rfl rfl (by decide) ?_
      refine r_eqi (y := V 2) (by (repeat rw [z_up_c (by omega)]); exact f2) ?_
      refine r_istore3 X dX5_rule_20 ?_
      refine r_aload0 X dX5_rule_21 ?_
      refine r_get X 0 dX5_rule_22 z_c0 in_X5 tw_236 (by decide) rfl rfl (by decide) ?_
      refine r_iload2 X dX5_rule_25 ?_
      refine r_put (ty := .int) X 5 5 dX5_rule_26 (z_cShow (Or.inl rfl)) in_X4 tw_115 tyX4 tyX4_ok nmX4 (by omega) rfl (by decide) rfl (by decide +kernel) rfl rfl (fun _ _ => rfl) (Nat.le_of_ble_eq_true rfl) ?_
      refine r_aload0 X dX5_rule_29 ?_
      refine r_get X 4 dX5_rule_30 z_c0 in_X5 tw_240 (by decide) rfl rfl (by decide) ?_
      refine r_iconst X dX5_rule_33 ?_
      refine r_callVv (n := 1) X (c_X1_forgetFrom l X.2.2.1 _ 52 (Or.inl rfl) _ ⟨by omega, by omega⟩ (by (repeat rw [z_up_c (by omega)]); exact ⟨by omega, by omega⟩)) dX5_rule_34 tw_262 tw_263 tw_264 tw_45 tw_265 (z_cPlan (Or.inl rfl)) (by omega) rfl rfl (Nat.le_of_ble_eq_true rfl) ⟨by decide, by decide⟩ (by decide +kernel) rfl ?_
      refine r_iload3 X dX5_rule_37 ?_
      exact r_iretp X M dX5_rule_38 ⟨by unfold s_rule; rw [if_pos (by omega)]; rfl, by rw [zIf_p (by omega), if_pos rfl]; exact ⟨((zC0.refl hS).f5 v).us 5 _ (by unfold zFr; omega) (by omega), zKn_min (by repeat rw [z_up_c (by omega)]) hk.1 (by omega)⟩⟩

set_option maxRecDepth 100000 in
set_option maxHeartbeats 4000000 in
theorem c_X5_drums (l : Launch) {D : va_G} {κ : Nat → ClassId} {a : Nat → Nat} {A : Nat → Prop} (hA : z_aD a A) (σ : zSt) (x y : Int) (hx : z_in x) (hy : z_in y) (V : zV) (hV : v_ok V) (hS : zShow σ 1 V) (hk : 0 ≤ σ 52 5 ∧ σ 52 5 ≤ 5) : z_Tp l D κ a A yX5_drums cX5_drums 3 (some .int) 2 [.ref (a 0), .int (zI x), .int (zI y)] σ (fun z σ' => z = s_drums x y ∧ zCup σ σ' V (z_if z V (u_drums V x y)) (5)) := by
  refine z_Tp_of (cc := cX5_drums) (maxL := 3) (ret := (some .int)) (own := RX5) (lv0 := [some (.ref (a 0)), some (.int (zI x)), some (.int (zI y))]) hA (by decide) rfl (Nat.le_of_ble_eq_true rfl) rfl ?_
  intro p e s mm below meth c X M
  obtain ⟨⟨hv0, hv1, hv2, hv3, hv4, hv5⟩, hvm, hvb, hvk, hvc, hvd⟩ := hV
  obtain ⟨⟨f0, f1, f2, f3, f4, f5⟩, hm, hp⟩ := id hS
  refine r_iload1 X dX5_drums_0 ?_
  refine r_iload2 X dX5_drums_1 ?_
  refine r_callSi (n := 2) X (c_X5_isOnGrass l X.2.2.1 _ _ _ ⟨by omega, by omega⟩ ⟨by omega, by omega⟩) dX5_drums_2 tw_372 tw_322 tw_40 tw_323 rfl (Nat.le_of_ble_eq_true rfl) ⟨by decide, by decide⟩ (by decide +kernel) rfl ?_
  refine r_if_neB (tgt := 11) X dX5_drums_5 (fun h5 => ?_) (fun h5 => ?_)
  · refine r_aload0 X dX5_drums_11 ?_
    refine r_get X 0 dX5_drums_12 z_c0 in_X5 tw_236 (by decide) rfl rfl (by decide) ?_
    refine r_iload1 X dX5_drums_15 ?_
    refine r_put (ty := .int) X 7 7 dX5_drums_16 (z_cShow (Or.inl rfl)) in_X4 tw_119 tyX4 tyX4_ok nmX4 (by omega) rfl (by decide) rfl (by decide +kernel) rfl rfl (fun _ _ => rfl) (Nat.le_of_ble_eq_true rfl) ?_
    refine r_aload0 X dX5_drums_19 ?_
    refine r_get X 0 dX5_drums_20 z_c0 in_X5 tw_236 (by decide) rfl rfl (by decide) ?_
    refine r_iload2 X dX5_drums_23 ?_
    refine r_put (ty := .int) X 8 8 dX5_drums_24 (z_cShow (Or.inl rfl)) in_X4 tw_121 tyX4 tyX4_ok nmX4 (by omega) rfl (by decide) rfl (by decide +kernel) rfl rfl (fun _ _ => rfl) (Nat.le_of_ble_eq_true rfl) ?_
    refine r_iconst X dX5_drums_27 ?_
    exact r_iretp X M dX5_drums_28 ⟨by unfold s_drums; (repeat' split) <;> omega, by rw [zIf_p (by omega)]; exact ⟨(((zC0.refl hS).f7 x).f8 y), ⟨by (repeat rw [z_up_c (by omega)]); omega, by (repeat rw [z_up_c (by omega)]); omega⟩, Or.inl (by (repeat rw [z_up_c (by omega)]); omega)⟩⟩
  · refine r_bipush X dX5_drums_8 (by decide +kernel) ?_
    exact r_iretp X M dX5_drums_10 ⟨by unfold s_drums; (repeat' split) <;> omega, by rw [zIf_n (by omega)]; exact zCup.refl hS hk.1 _⟩

set_option maxRecDepth 100000 in
set_option maxHeartbeats 4000000 in
theorem c_X5_dot (l : Launch) {D : va_G} {κ : Nat → ClassId} {a : Nat → Nat} {A : Nat → Prop} (hA : z_aD a A) (σ : zSt) (k d w : Int) (hk0 : z_in k) (hd0 : z_in d) (hw : z_in w) (V : zV) (hV : v_ok V) (hS : zShow σ 1 V) (hk : 0 ≤ σ 52 5 ∧ σ 52 5 ≤ 5) : z_Tp l D κ a A yX5_dot cX5_dot 5 (some .int) 2 [.ref (a 0), .int (zI k), .int (zI d), .int (zI w)] σ (fun z σ' => z = s_dot V k d w ∧ zCup σ σ' V (z_if z V (V)) (5)) := by
  refine z_Tp_of (cc := cX5_dot) (maxL := 5) (ret := (some .int)) (own := RX5) (lv0 := [some (.ref (a 0)), some (.int (zI k)), some (.int (zI d)), some (.int (zI w)), none]) hA (by decide) rfl (Nat.le_of_ble_eq_true rfl) rfl ?_
  intro p e s mm below meth c X M
  obtain ⟨⟨hv0, hv1, hv2, hv3, hv4, hv5⟩, hvm, hvb, hvk, hvc, hvd⟩ := hV
  obtain ⟨⟨f0, f1, f2, f3, f4, f5⟩, hm, hp⟩ := id hS
  refine r_aload0 X dX5_dot_0 ?_
  refine r_get X 0 dX5_dot_1 z_c0 in_X5 tw_236 (by decide) rfl rfl (by decide) ?_
  refine r_iload1 X dX5_dot_4 ?_
  refine r_callVi (n := 1) X (c_X4_hasPicture l X.2.2.1 _ 1 (Or.inl rfl) _ ⟨by omega, by omega⟩ ⟨by omega, by omega⟩) dX5_dot_5 tw_293 tw_294 tw_295 tw_41 tw_296 (z_cShow (Or.inl rfl)) (by omega) rfl rfl (Nat.le_of_ble_eq_true rfl) ⟨by decide, by decide⟩ (by decide +kernel) rfl ?_
  refine r_if_eqB (tgt := 36) X dX5_dot_8 (fun h8 => ?_) (fun h8 => ?_)
  · refine r_iconst X dX5_dot_36 ?_
    exact r_iretp X M dX5_dot_37 ⟨by unfold s_dot; (repeat' split) <;> omega, by unfold z_if; split <;> exact zCup.refl hS hk.1 _⟩
  · obtain ⟨K, rfl⟩ : ∃ K : Nat, k = (K : Int) := ⟨k.toNat, by omega⟩
    have hK : K < 5 := by omega
    have hpk := hp K hK
    have q1 := hvk K (by omega) (by omega)
    rw [show 19 + 2 * (K : Int) = 18 + (2 * (K : Int) + 1) by omega] at q1
    refine r_aload0 X dX5_dot_11 ?_
    refine r_get X 0 dX5_dot_12 z_c0 in_X5 tw_236 (by decide) rfl rfl (by decide) ?_
    refine r_get X 3 dX5_dot_15 (z_cShow (Or.inl rfl)) in_X4 tw_108 (by omega) rfl rfl (by decide) ?_
    refine r_iload1 X dX5_dot_18 ?_
    refine r_aald (k := K) X dX5_dot_19 (Or.inl rfl) hK ?_
    refine r_iload2 X dX5_dot_20 ?_
    refine r_callVi (n := 1) X (c_X0_hasDot l X.2.2.1 _ _ (z_pic.mk (Or.inl rfl) hK) _ ⟨by omega, by omega⟩ ⟨by omega, by omega⟩) dX5_dot_21 tw_356 tw_357 tw_358 tw_42 tw_359 (z_cPic (z_pic.mk (Or.inl rfl) hK)) (by have := z_pic.lt (z_pic.mk (Or.inl rfl) hK); omega) rfl rfl (Nat.le_of_ble_eq_true rfl) ⟨by decide, by decide⟩ (by decide +kernel) rfl ?_
    refine r_if_eqB (tgt := 36) X dX5_dot_24 (fun h24 => ?_) (fun h24 => ?_)
    · refine r_iconst X dX5_dot_36 ?_
      exact r_iretp X M dX5_dot_37 ⟨by unfold s_dot; (repeat' split) <;> omega, by unfold z_if; split <;> exact zCup.refl hS hk.1 _⟩
    · refine r_iload3 X dX5_dot_27 ?_
      refine r_iconst X dX5_dot_28 ?_
      refine r_iconst X dX5_dot_29 ?_
      refine r_callSi (n := 3) X (c_X5_isOutside l X.2.2.1 _ _ _ _ ⟨by omega, by omega⟩ ⟨by omega, by omega⟩ ⟨by omega, by omega⟩) dX5_dot_30 tw_259 tw_260 tw_40 tw_261 rfl (Nat.le_of_ble_eq_true rfl) ⟨by decide, by decide⟩ (by decide +kernel) rfl ?_
      refine r_if_eqB (tgt := 38) X dX5_dot_33 (fun h33 => ?_) (fun h33 => ?_)
      · have qd := hpk.2.2 d (by omega) (by omega)
        have q3 := hvd (7 * (K : Int) + d) (by omega) (by omega)
        rw [show 29 + 3 * (7 * (K : Int) + d) = 28 + (3 * (7 * (K : Int) + d) + 1) by omega, show 30 + 3 * (7 * (K : Int) + d) = 28 + (3 * (7 * (K : Int) + d) + 2) by omega] at q3
        refine r_aload0 X dX5_dot_38 ?_
        refine r_get X 0 dX5_dot_39 z_c0 in_X5 tw_236 (by decide) rfl rfl (by decide) ?_
        refine r_get X 3 dX5_dot_42 (z_cShow (Or.inl rfl)) in_X4 tw_108 (by omega) rfl rfl (by decide) ?_
        refine r_iload1 X dX5_dot_45 ?_
        refine r_aald (k := K) X dX5_dot_46 (Or.inl rfl) hK ?_
        refine r_astore4 X dX5_dot_47 ?_
        refine r_iload3 X dX5_dot_49 ?_
        refine r_iconst X dX5_dot_50 ?_
        refine r_icmp_ne (tgt := 70) X dX5_dot_51 ⟨⟨by omega, by omega⟩, by omega, by omega⟩ (fun h51 => ?_) (fun h51 => ?_)
        · refine r_iload3 X dX5_dot_70 ?_
          refine r_if_ne (tgt := 83) X dX5_dot_71 ⟨by omega, by omega⟩ (fun h71 => ?_) (fun h71 => ?_)
          · refine r_aload4 X dX5_dot_83 ?_
            refine r_iload2 X dX5_dot_85 ?_
            refine r_callVi (n := 1) X (c_X0_yOf l X.2.2.1 _ _ (z_pic.mk (Or.inl rfl) hK) _ ⟨by omega, by omega⟩ ⟨by omega, by omega⟩) dX5_dot_86 tw_382 tw_383 tw_384 tw_42 tw_385 (z_cPic (z_pic.mk (Or.inl rfl) hK)) (by have := z_pic.lt (z_pic.mk (Or.inl rfl) hK); omega) rfl rfl (Nat.le_of_ble_eq_true rfl) ⟨by decide, by decide⟩ (by decide +kernel) rfl ?_
            refine r_eqi (y := V (28 + (3 * (7 * (K : Int) + d) + 1))) (by rw [if_pos (by omega), qd.2.1]) ?_
            have hw0 : w = 1 := by omega
            subst hw0
            exact r_iretp X M dX5_dot_89 ⟨by unfold s_dot; (repeat' split) <;> omega, by unfold z_if; split <;> exact zCup.refl hS hk.1 _⟩
          · refine r_aload4 X dX5_dot_74 ?_
            refine r_iload2 X dX5_dot_76 ?_
            refine r_callVi (n := 1) X (c_X0_xOf l X.2.2.1 _ _ (z_pic.mk (Or.inl rfl) hK) _ ⟨by omega, by omega⟩ ⟨by omega, by omega⟩) dX5_dot_77 tw_377 tw_378 tw_379 tw_42 tw_380 (z_cPic (z_pic.mk (Or.inl rfl) hK)) (by have := z_pic.lt (z_pic.mk (Or.inl rfl) hK); omega) rfl rfl (Nat.le_of_ble_eq_true rfl) ⟨by decide, by decide⟩ (by decide +kernel) rfl ?_
            refine r_eqi (y := V (28 + (3 * (7 * (K : Int) + d) + 0))) (by rw [if_pos (by omega), qd.1, Int.add_zero]) ?_
            have hw0 : w = 0 := by omega
            subst hw0
            refine r_goto (tgt := 89) X dX5_dot_80 (by decide) ?_
            exact r_iretp X M dX5_dot_89 ⟨by unfold s_dot; (repeat' split) <;> omega, by unfold z_if; split <;> exact zCup.refl hS hk.1 _⟩
        · refine r_aload4 X dX5_dot_54 ?_
          refine r_get X 2 dX5_dot_56 (z_cPic (z_pic.mk (Or.inl rfl) hK)) in_X0 tw_77 (by have := z_pic.lt (z_pic.mk (Or.inl rfl) hK); omega) rfl rfl (by decide) ?_
          refine r_iload2 X dX5_dot_59 ?_
          refine r_zald X dX5_dot_60 (z_cPic3 (z_pic.mk (Or.inl rfl) hK)) (by have := z_pic.lt (z_pic.mk (Or.inl rfl) hK); omega) ⟨by omega, by omega⟩ ?_
          refine r_eqi (y := V (28 + (3 * (7 * (K : Int) + d) + 2))) (by (repeat rw [z_up_c (by omega)]); exact qd.2.2) ?_
          refine r_if_eq (tgt := 68) X dX5_dot_61 ⟨by omega, by omega⟩ (fun h61 => ?_) (fun h61 => ?_)
          · refine r_iconst X dX5_dot_68 ?_
            exact r_iretp X M dX5_dot_69 ⟨by unfold s_dot; rw [if_pos (by omega), show w = 2 by omega]; omega, by unfold z_if; split <;> exact zCup.refl hS hk.1 _⟩
          · refine r_iconst X dX5_dot_64 ?_
            refine r_goto (tgt := 69) X dX5_dot_65 (by decide) ?_
            exact r_iretp X M dX5_dot_69 ⟨by unfold s_dot; rw [if_pos (by omega), show w = 2 by omega]; omega, by unfold z_if; split <;> exact zCup.refl hS hk.1 _⟩
      · refine r_iconst X dX5_dot_36 ?_
        exact r_iretp X M dX5_dot_37 ⟨by unfold s_dot; (repeat' split) <;> omega, by unfold z_if; split <;> exact zCup.refl hS hk.1 _⟩

