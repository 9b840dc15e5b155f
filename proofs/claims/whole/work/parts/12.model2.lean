set_option maxRecDepth 100000 in
set_option maxHeartbeats 4000000 in
theorem c_X6_marcher (l : Launch) {D : va_G} {κ : Nat → ClassId} {a : Nat → Nat} {A : Nat → Prop} (hA : z_aD a A) (σ : zSt) (b : Int) (hb : z_in b) (V : zV) (hV : v_ok V) (hM : zModel σ V) : z_Tp l D κ a A yX6_marcher cX6_marcher 2 (some .int) 1 [.ref (a 80), .int (zI b)] σ (fun z σ' => z = s_marcher V b ∧ zMup σ σ' (z_if z V (u_marcher V b))) := by
  refine z_Tp_of (cc := cX6_marcher) (maxL := 2) (ret := (some .int)) (own := RX6) (lv0 := [some (.ref (a 80)), some (.int (zI b))]) hA (by decide) rfl (Nat.le_of_ble_eq_true rfl) rfl ?_
  intro p e s mm below meth c X M
  obtain ⟨⟨hv0, hv1, hv2, hv3, hv4, hv5⟩, hvm, hvb, hvk, hvc, hvd⟩ := hV
  have e0 := hM.1 0 (by omega) (by omega)
  have e1 := hM.1 1 (by omega) (by omega)
  refine r_iload1 X dX6_marcher_0 ?_
  refine r_i2l X dX6_marcher_1 ⟨by omega, by omega⟩ ?_
  refine r_lconst X dX6_marcher_2 1 (by decide +kernel) ?_
  refine r_ldc2 X dX6_marcher_3 4 (by decide +kernel) tw_618 ?_
  refine r_callSi (n := 3) X (c_X6_in l X.2.2.1 _ _ _ _ ⟨by omega, by omega⟩ ⟨by omega, by omega⟩ ⟨by omega, by omega⟩) dX6_marcher_6 tw_619 tw_620 tw_46 tw_621 rfl (Nat.le_of_ble_eq_true rfl) ⟨by decide, by decide⟩ (by decide +kernel) rfl ?_
  refine r_if_neB (tgt := 14) X dX6_marcher_9 (fun h9 => ?_) (fun h9 => ?_)
  · refine r_aload0 X dX6_marcher_14 ?_
    refine r_get X 0 dX6_marcher_15 z_c80 in_X6 tw_558 (by decide) rfl rfl (by decide) ?_
    refine r_iconst X dX6_marcher_18 ?_
    refine r_iald X dX6_marcher_19 z_c81 (by decide) ⟨by omega, by omega⟩ ?_
    refine r_eqi (y := V 0) (by (repeat rw [z_up_c (by decide)]); first | exact e0 | exact e1) ?_
    refine r_bipush X dX6_marcher_20 (by decide +kernel) ?_
    refine r_icmp_ne (tgt := 28) X dX6_marcher_22 ⟨⟨by omega, by omega⟩, by omega, by omega⟩ (fun h22 => ?_) (fun h22 => ?_)
    · refine r_aload0 X dX6_marcher_28 ?_
      refine r_get X 1 dX6_marcher_29 z_c80 in_X6 tw_559 (by decide) rfl rfl (by decide) ?_
      refine r_iconst X dX6_marcher_32 ?_
      refine r_aload0 X dX6_marcher_33 ?_
      refine r_get X 0 dX6_marcher_34 z_c80 in_X6 tw_558 (by decide) rfl rfl (by decide) ?_
      refine r_iconst X dX6_marcher_37 ?_
      refine r_iald X dX6_marcher_38 z_c81 (by decide) ⟨by omega, by omega⟩ ?_
      refine r_eqi (y := V 0) (by (repeat rw [z_up_c (by decide)]); first | exact e0 | exact e1) ?_
      refine r_imul X dX6_marcher_39 ?_
      refine r_iload1 X dX6_marcher_40 ?_
      refine r_iast X dX6_marcher_41 z_c82 (by decide) ⟨by omega, by omega⟩ ?_
      refine r_aload0 X dX6_marcher_42 ?_
      refine r_get X 1 dX6_marcher_43 z_c80 in_X6 tw_559 (by decide) rfl rfl (by decide) ?_
      refine r_iconst X dX6_marcher_46 ?_
      refine r_aload0 X dX6_marcher_47 ?_
      refine r_get X 0 dX6_marcher_48 z_c80 in_X6 tw_558 (by decide) rfl rfl (by decide) ?_
      refine r_iconst X dX6_marcher_51 ?_
      refine r_iald X dX6_marcher_52 z_c81 (by decide) ⟨by omega, by omega⟩ ?_
      refine r_eqi (y := V 0) (by (repeat rw [z_up_c (by decide)]); first | exact e0 | exact e1) ?_
      refine r_imul X dX6_marcher_53 ?_
      refine r_iconst X dX6_marcher_54 ?_
      refine r_iadd X dX6_marcher_55 ?_
      refine r_iconst X dX6_marcher_56 ?_
      refine r_iast X dX6_marcher_57 z_c82 (by decide) ⟨by omega, by omega⟩ ?_
      refine r_aload0 X dX6_marcher_58 ?_
      refine r_get X 0 dX6_marcher_59 z_c80 in_X6 tw_558 (by decide) rfl rfl (by decide) ?_
      refine r_iconst X dX6_marcher_62 ?_
      refine r_dup2 X dX6_marcher_63 rfl rfl ?_
      refine r_iald X dX6_marcher_64 z_c81 (by decide) ⟨by omega, by omega⟩ ?_
      refine r_eqi (y := V 0) (by (repeat rw [z_up_c (by decide)]); first | exact e0 | exact e1) ?_
      refine r_iconst X dX6_marcher_65 ?_
      refine r_iadd X dX6_marcher_66 ?_
      refine r_iast X dX6_marcher_67 z_c81 (by decide) ⟨by omega, by omega⟩ ?_
      refine r_aload0 X dX6_marcher_68 ?_
      refine r_get X 0 dX6_marcher_69 z_c80 in_X6 tw_558 (by decide) rfl rfl (by decide) ?_
      refine r_iconst X dX6_marcher_72 ?_
      refine r_iald X dX6_marcher_73 z_c81 (by decide) ⟨by omega, by omega⟩ ?_
      refine r_eqi (y := V 0 + 1) z_up_s ?_
      refine r_iconst X dX6_marcher_74 ?_
      refine r_isub X dX6_marcher_75 ?_
      exact r_iretp X M dX6_marcher_76 ⟨by unfold s_marcher; (repeat' split) <;> omega, by rw [zIf_p (by omega)]; exact ((((zMup.refl hM).u82 b (by omega) (by omega)).u82 0 (by omega) (by omega)).u81 (V 0 + 1) (by omega) (by omega))⟩
    · refine r_bipush X dX6_marcher_25 (by decide +kernel) ?_
      exact r_iretp X M dX6_marcher_27 ⟨by unfold s_marcher; (repeat' split) <;> omega, by rw [zIf_n (by omega)]; exact zMup.refl hM⟩
  · refine r_iconst X dX6_marcher_12 ?_
    exact r_iretp X M dX6_marcher_13 ⟨by unfold s_marcher; (repeat' split) <;> omega, by rw [zIf_n (by omega)]; exact zMup.refl hM⟩

set_option maxRecDepth 100000 in
set_option maxHeartbeats 4000000 in
theorem c_X6_picture (l : Launch) {D : va_G} {κ : Nat → ClassId} {a : Nat → Nat} {A : Nat → Prop} (hA : z_aD a A) (σ : zSt) (b : Int) (hb : z_in b) (V : zV) (hV : v_ok V) (hM : zModel σ V) : z_Tp l D κ a A yX6_picture cX6_picture 2 (some .int) 1 [.ref (a 80), .int (zI b)] σ (fun z σ' => z = s_picture V b ∧ zMup σ σ' (z_if z V (u_picture V b))) := by
  refine z_Tp_of (cc := cX6_picture) (maxL := 2) (ret := (some .int)) (own := RX6) (lv0 := [some (.ref (a 80)), some (.int (zI b))]) hA (by decide) rfl (Nat.le_of_ble_eq_true rfl) rfl ?_
  intro p e s mm below meth c X M
  obtain ⟨⟨hv0, hv1, hv2, hv3, hv4, hv5⟩, hvm, hvb, hvk, hvc, hvd⟩ := hV
  have e0 := hM.1 0 (by omega) (by omega)
  have e1 := hM.1 1 (by omega) (by omega)
  refine r_iload1 X dX6_picture_0 ?_
  refine r_i2l X dX6_picture_1 ⟨by omega, by omega⟩ ?_
  refine r_lconst X dX6_picture_2 1 (by decide +kernel) ?_
  refine r_ldc2 X dX6_picture_3 16 (by decide +kernel) tw_638 ?_
  refine r_callSi (n := 3) X (c_X6_in l X.2.2.1 _ _ _ _ ⟨by omega, by omega⟩ ⟨by omega, by omega⟩ ⟨by omega, by omega⟩) dX6_picture_6 tw_619 tw_620 tw_46 tw_621 rfl (Nat.le_of_ble_eq_true rfl) ⟨by decide, by decide⟩ (by decide +kernel) rfl ?_
  refine r_if_neB (tgt := 14) X dX6_picture_9 (fun h9 => ?_) (fun h9 => ?_)
  · refine r_aload0 X dX6_picture_14 ?_
    refine r_get X 0 dX6_picture_15 z_c80 in_X6 tw_558 (by decide) rfl rfl (by decide) ?_
    refine r_iconst X dX6_picture_18 ?_
    refine r_iald X dX6_picture_19 z_c81 (by decide) ⟨by omega, by omega⟩ ?_
    refine r_eqi (y := V 1) (by (repeat rw [z_up_c (by decide)]); first | exact e0 | exact e1) ?_
    refine r_iconst X dX6_picture_20 ?_
    refine r_icmp_ne (tgt := 27) X dX6_picture_21 ⟨⟨by omega, by omega⟩, by omega, by omega⟩ (fun h21 => ?_) (fun h21 => ?_)
    · refine r_aload0 X dX6_picture_27 ?_
      refine r_get X 2 dX6_picture_28 z_c80 in_X6 tw_560 (by decide) rfl rfl (by decide) ?_
      refine r_iconst X dX6_picture_31 ?_
      refine r_aload0 X dX6_picture_32 ?_
      refine r_get X 0 dX6_picture_33 z_c80 in_X6 tw_558 (by decide) rfl rfl (by decide) ?_
      refine r_iconst X dX6_picture_36 ?_
      refine r_iald X dX6_picture_37 z_c81 (by decide) ⟨by omega, by omega⟩ ?_
      refine r_eqi (y := V 1) (by (repeat rw [z_up_c (by decide)]); first | exact e0 | exact e1) ?_
      refine r_imul X dX6_picture_38 ?_
      refine r_iload1 X dX6_picture_39 ?_
      refine r_iast X dX6_picture_40 z_c83 (by decide) ⟨by omega, by omega⟩ ?_
      refine r_aload0 X dX6_picture_41 ?_
      refine r_get X 2 dX6_picture_42 z_c80 in_X6 tw_560 (by decide) rfl rfl (by decide) ?_
      refine r_iconst X dX6_picture_45 ?_
      refine r_aload0 X dX6_picture_46 ?_
      refine r_get X 0 dX6_picture_47 z_c80 in_X6 tw_558 (by decide) rfl rfl (by decide) ?_
      refine r_iconst X dX6_picture_50 ?_
      refine r_iald X dX6_picture_51 z_c81 (by decide) ⟨by omega, by omega⟩ ?_
      refine r_eqi (y := V 1) (by (repeat rw [z_up_c (by decide)]); first | exact e0 | exact e1) ?_
      refine r_imul X dX6_picture_52 ?_
      refine r_iconst X dX6_picture_53 ?_
      refine r_iadd X dX6_picture_54 ?_
      refine r_iconst X dX6_picture_55 ?_
      refine r_iast X dX6_picture_56 z_c83 (by decide) ⟨by omega, by omega⟩ ?_
      refine r_aload0 X dX6_picture_57 ?_
      refine r_get X 0 dX6_picture_58 z_c80 in_X6 tw_558 (by decide) rfl rfl (by decide) ?_
      refine r_iconst X dX6_picture_61 ?_
      refine r_dup2 X dX6_picture_62 rfl rfl ?_
      refine r_iald X dX6_picture_63 z_c81 (by decide) ⟨by omega, by omega⟩ ?_
      refine r_eqi (y := V 1) (by (repeat rw [z_up_c (by decide)]); first | exact e0 | exact e1) ?_
      refine r_iconst X dX6_picture_64 ?_
      refine r_iadd X dX6_picture_65 ?_
      refine r_iast X dX6_picture_66 z_c81 (by decide) ⟨by omega, by omega⟩ ?_
      refine r_aload0 X dX6_picture_67 ?_
      refine r_get X 0 dX6_picture_68 z_c80 in_X6 tw_558 (by decide) rfl rfl (by decide) ?_
      refine r_iconst X dX6_picture_71 ?_
      refine r_iald X dX6_picture_72 z_c81 (by decide) ⟨by omega, by omega⟩ ?_
      refine r_eqi (y := V 1 + 1) z_up_s ?_
      refine r_iconst X dX6_picture_73 ?_
      refine r_isub X dX6_picture_74 ?_
      exact r_iretp X M dX6_picture_75 ⟨by unfold s_picture; (repeat' split) <;> omega, by rw [zIf_p (by omega)]; exact ((((zMup.refl hM).u83 b (by omega) (by omega)).u83 0 (by omega) (by omega)).u81 (V 1 + 1) (by omega) (by omega))⟩
    · refine r_bipush X dX6_picture_24 (by decide +kernel) ?_
      exact r_iretp X M dX6_picture_26 ⟨by unfold s_picture; (repeat' split) <;> omega, by rw [zIf_n (by omega)]; exact zMup.refl hM⟩
  · refine r_iconst X dX6_picture_12 ?_
    exact r_iretp X M dX6_picture_13 ⟨by unfold s_picture; (repeat' split) <;> omega, by rw [zIf_n (by omega)]; exact zMup.refl hM⟩

set_option maxRecDepth 100000 in
set_option maxHeartbeats 4000000 in
theorem c_X6_ill (l : Launch) {D : va_G} {κ : Nat → ClassId} {a : Nat → Nat} {A : Nat → Prop} (hA : z_aD a A) (σ : zSt) (m i : Int) (hm : z_in m) (hi : i = 0 ∨ i = 1) (V : zV) (hV : v_ok V) (hM : zModel σ V) : z_Tp l D κ a A yX6_ill cX6_ill 5 (some .int) 2 [.ref (a 80), .int (zI m), .int (zI i)] σ (fun z σ' => z = s_ill V m i ∧ zMup σ σ' (z_if z V (u_ill V m i))) := by
  refine z_Tp_of (cc := cX6_ill) (maxL := 5) (ret := (some .int)) (own := RX6) (lv0 := [some (.ref (a 80)), some (.int (zI m)), some (.int (zI i)), none, none]) hA (by decide) rfl (Nat.le_of_ble_eq_true rfl) rfl ?_
  intro p e s mm below meth c X M
  obtain ⟨⟨hv0, hv1, hv2, hv3, hv4, hv5⟩, hvm, hvb, hvk, hvc, hvd⟩ := hV
  have e0 := hM.1 0 (by omega) (by omega)
  have e1 := hM.1 1 (by omega) (by omega)
  refine r_aload0 X dX6_ill_0 ?_
  refine r_iload1 X dX6_ill_1 ?_
  refine r_callVi (n := 1) X (c_X6_isMarcher l X.2.2.1 _ _ ⟨by omega, by omega⟩ ⟨by omega, by omega⟩) dX6_ill_2 tw_626 tw_628 tw_16 tw_46 tw_629 z_c80 (by decide) rfl rfl (Nat.le_of_ble_eq_true rfl) ⟨by decide, by decide⟩ (by decide +kernel) rfl ?_
  refine r_if_neB (tgt := 10) X dX6_ill_5 (fun h5 => ?_) (fun h5 => ?_)
  · have q1 := hvm m (by omega) (by omega)
    rw [show 7 + 2 * m = 6 + (2 * m + 1) by omega] at q1
    refine r_iload2 X dX6_ill_10 ?_
    refine r_if_eq (tgt := 18) X dX6_ill_11 ⟨by omega, by omega⟩ (fun h11 => ?_) (fun h11 => ?_)
    · refine r_iconst X dX6_ill_18 ?_
      refine r_istore3 X dX6_ill_19 ?_
      refine r_aload0 X dX6_ill_20 ?_
      refine r_get X 1 dX6_ill_21 z_c80 in_X6 tw_559 (by decide) rfl rfl (by decide) ?_
      refine r_iconst X dX6_ill_24 ?_
      refine r_iload1 X dX6_ill_25 ?_
      refine r_imul X dX6_ill_26 ?_
      refine r_iconst X dX6_ill_27 ?_
      refine r_iadd X dX6_ill_28 ?_
      refine r_iald X dX6_ill_29 z_c82 (by decide) ⟨by omega, by omega⟩ ?_
      refine r_eqi (hM.2.1 _ (by omega) (by omega)) ?_
      refine r_iload3 X dX6_ill_30 ?_
      refine r_icmp_ne (tgt := 38) X dX6_ill_31 ⟨⟨by omega, by omega⟩, by omega, by omega⟩ (fun h31 => ?_) (fun h31 => ?_)
      · refine r_iconst X dX6_ill_38 ?_
        refine r_istore4 X dX6_ill_39 ?_
        refine r_aload0 X dX6_ill_41 ?_
        refine r_get X 1 dX6_ill_42 z_c80 in_X6 tw_559 (by decide) rfl rfl (by decide) ?_
        refine r_iconst X dX6_ill_45 ?_
        refine r_iload1 X dX6_ill_46 ?_
        refine r_imul X dX6_ill_47 ?_
        refine r_iconst X dX6_ill_48 ?_
        refine r_iadd X dX6_ill_49 ?_
        refine r_iload3 X dX6_ill_50 ?_
        refine r_iast X dX6_ill_51 z_c82 (by decide) ⟨by omega, by omega⟩ ?_
        refine r_iload4 X dX6_ill_52 ?_
        exact r_iretp X M dX6_ill_54 ⟨by unfold s_ill; (repeat' split) <;> omega, by rw [zIf_p (by omega)]; exact ((zMup.refl hM).u82 _ (by omega) (by omega)).eq (by unfold u_ill; congr 1; omega)⟩
      · refine r_iconst X dX6_ill_34 ?_
        refine r_goto (tgt := 39) X dX6_ill_35 (by decide) ?_
        refine r_istore4 X dX6_ill_39 ?_
        refine r_aload0 X dX6_ill_41 ?_
        refine r_get X 1 dX6_ill_42 z_c80 in_X6 tw_559 (by decide) rfl rfl (by decide) ?_
        refine r_iconst X dX6_ill_45 ?_
        refine r_iload1 X dX6_ill_46 ?_
        refine r_imul X dX6_ill_47 ?_
        refine r_iconst X dX6_ill_48 ?_
        refine r_iadd X dX6_ill_49 ?_
        refine r_iload3 X dX6_ill_50 ?_
        refine r_iast X dX6_ill_51 z_c82 (by decide) ⟨by omega, by omega⟩ ?_
        refine r_iload4 X dX6_ill_52 ?_
        exact r_iretp X M dX6_ill_54 ⟨by unfold s_ill; (repeat' split) <;> omega, by rw [zIf_p (by omega)]; exact ((zMup.refl hM).u82 _ (by omega) (by omega)).eq (by unfold u_ill; congr 1; omega)⟩
    · refine r_iconst X dX6_ill_14 ?_
      refine r_goto (tgt := 19) X dX6_ill_15 (by decide) ?_
      refine r_istore3 X dX6_ill_19 ?_
      refine r_aload0 X dX6_ill_20 ?_
      refine r_get X 1 dX6_ill_21 z_c80 in_X6 tw_559 (by decide) rfl rfl (by decide) ?_
      refine r_iconst X dX6_ill_24 ?_
      refine r_iload1 X dX6_ill_25 ?_
      refine r_imul X dX6_ill_26 ?_
      refine r_iconst X dX6_ill_27 ?_
      refine r_iadd X dX6_ill_28 ?_
      refine r_iald X dX6_ill_29 z_c82 (by decide) ⟨by omega, by omega⟩ ?_
      refine r_eqi (hM.2.1 _ (by omega) (by omega)) ?_
      refine r_iload3 X dX6_ill_30 ?_
      refine r_icmp_ne (tgt := 38) X dX6_ill_31 ⟨⟨by omega, by omega⟩, by omega, by omega⟩ (fun h31 => ?_) (fun h31 => ?_)
      · refine r_iconst X dX6_ill_38 ?_
        refine r_istore4 X dX6_ill_39 ?_
        refine r_aload0 X dX6_ill_41 ?_
        refine r_get X 1 dX6_ill_42 z_c80 in_X6 tw_559 (by decide) rfl rfl (by decide) ?_
        refine r_iconst X dX6_ill_45 ?_
        refine r_iload1 X dX6_ill_46 ?_
        refine r_imul X dX6_ill_47 ?_
        refine r_iconst X dX6_ill_48 ?_
        refine r_iadd X dX6_ill_49 ?_
        refine r_iload3 X dX6_ill_50 ?_
        refine r_iast X dX6_ill_51 z_c82 (by decide) ⟨by omega, by omega⟩ ?_
        refine r_iload4 X dX6_ill_52 ?_
        exact r_iretp X M dX6_ill_54 ⟨by unfold s_ill; (repeat' split) <;> omega, by rw [zIf_p (by omega)]; exact ((zMup.refl hM).u82 _ (by omega) (by omega)).eq (by unfold u_ill; congr 1; omega)⟩
      · refine r_iconst X dX6_ill_34 ?_
        refine r_goto (tgt := 39) X dX6_ill_35 (by decide) ?_
        refine r_istore4 X dX6_ill_39 ?_
        refine r_aload0 X dX6_ill_41 ?_
        refine r_get X 1 dX6_ill_42 z_c80 in_X6 tw_559 (by decide) rfl rfl (by decide) ?_
        refine r_iconst X dX6_ill_45 ?_
        refine r_iload1 X dX6_ill_46 ?_
        refine r_imul X dX6_ill_47 ?_
        refine r_iconst X dX6_ill_48 ?_
        refine r_iadd X dX6_ill_49 ?_
        refine r_iload3 X dX6_ill_50 ?_
        refine r_iast X dX6_ill_51 z_c82 (by decide) ⟨by omega, by omega⟩ ?_
        refine r_iload4 X dX6_ill_52 ?_
        exact r_iretp X M dX6_ill_54 ⟨by unfold s_ill; (repeat' split) <;> omega, by rw [zIf_p (by omega)]; exact ((zMup.refl hM).u82 _ (by omega) (by omega)).eq (by unfold u_ill; congr 1; omega)⟩
  · refine r_iconst X dX6_ill_8 ?_
    exact r_iretp X M dX6_ill_9 ⟨by unfold s_ill; (repeat' split) <;> omega, by rw [zIf_n (by omega)]; exact zMup.refl hM⟩

set_option maxRecDepth 100000 in
set_option maxHeartbeats 4000000 in
theorem c_X6_bound (l : Launch) {D : va_G} {κ : Nat → ClassId} {a : Nat → Nat} {A : Nat → Prop} (hA : z_aD a A) (σ : zSt) (m v : Int) (hm : z_in m) (hv : z_in v) (V : zV) (hV : v_ok V) (hM : zModel σ V) : z_Tp l D κ a A yX6_bound cX6_bound 4 (some .int) 2 [.ref (a 80), .int (zI m), .int (zI v)] σ (fun z σ' => z = s_bound V m v ∧ zMup σ σ' (z_if z V (u_bound V m v))) := by
  refine z_Tp_of (cc := cX6_bound) (maxL := 4) (ret := (some .int)) (own := RX6) (lv0 := [some (.ref (a 80)), some (.int (zI m)), some (.int (zI v)), none]) hA (by decide) rfl (Nat.le_of_ble_eq_true rfl) rfl ?_
  intro p e s mm below meth c X M
  obtain ⟨⟨hv0, hv1, hv2, hv3, hv4, hv5⟩, hvm, hvb, hvk, hvc, hvd⟩ := hV
  have e0 := hM.1 0 (by omega) (by omega)
  have e1 := hM.1 1 (by omega) (by omega)
  refine r_aload0 X dX6_bound_0 ?_
  refine r_iload1 X dX6_bound_1 ?_
  refine r_callVi (n := 1) X (c_X6_isMarcher l X.2.2.1 _ _ ⟨by omega, by omega⟩ ⟨by omega, by omega⟩) dX6_bound_2 tw_626 tw_628 tw_16 tw_46 tw_629 z_c80 (by decide) rfl rfl (Nat.le_of_ble_eq_true rfl) ⟨by decide, by decide⟩ (by decide +kernel) rfl ?_
  refine r_if_eqB (tgt := 20) X dX6_bound_5 (fun h5 => ?_) (fun h5 => ?_)
  · refine r_iconst X dX6_bound_20 ?_
    exact r_iretp X M dX6_bound_21 ⟨by unfold s_bound; (repeat' split) <;> omega, by rw [zIf_n (by omega)]; exact zMup.refl hM⟩
  · refine r_iload2 X dX6_bound_8 ?_
    refine r_i2l X dX6_bound_9 ⟨by omega, by omega⟩ ?_
    refine r_lconst X dX6_bound_10 1 (by decide +kernel) ?_
    refine r_ldc2 X dX6_bound_11 4 (by decide +kernel) tw_618 ?_
    refine r_callSi (n := 3) X (c_X6_in l X.2.2.1 _ _ _ _ ⟨by omega, by omega⟩ ⟨by omega, by omega⟩ ⟨by omega, by omega⟩) dX6_bound_14 tw_619 tw_620 tw_46 tw_621 rfl (Nat.le_of_ble_eq_true rfl) ⟨by decide, by decide⟩ (by decide +kernel) rfl ?_
    refine r_if_neB (tgt := 22) X dX6_bound_17 (fun h17 => ?_) (fun h17 => ?_)
    · have q1 := hvm m (by omega) (by omega)
      rw [show 7 + 2 * m = 6 + (2 * m + 1) by omega] at q1
      refine r_aload0 X dX6_bound_22 ?_
      refine r_get X 1 dX6_bound_23 z_c80 in_X6 tw_559 (by decide) rfl rfl (by decide) ?_
      refine r_iconst X dX6_bound_26 ?_
      refine r_iload1 X dX6_bound_27 ?_
      refine r_imul X dX6_bound_28 ?_
      refine r_iald X dX6_bound_29 z_c82 (by decide) ⟨by omega, by omega⟩ ?_
      refine r_eqi (hM.2.1 _ (by omega) (by omega)) ?_
      refine r_istore3 X dX6_bound_30 ?_
      refine r_aload0 X dX6_bound_31 ?_
      refine r_get X 1 dX6_bound_32 z_c80 in_X6 tw_559 (by decide) rfl rfl (by decide) ?_
      refine r_iconst X dX6_bound_35 ?_
      refine r_iload1 X dX6_bound_36 ?_
      refine r_imul X dX6_bound_37 ?_
      refine r_iload2 X dX6_bound_38 ?_
      refine r_iast X dX6_bound_39 z_c82 (by decide) ⟨by omega, by omega⟩ ?_
      refine r_iload3 X dX6_bound_40 ?_
      exact r_iretp X M dX6_bound_41 ⟨by unfold s_bound; (repeat' split) <;> omega, by rw [zIf_p (by omega)]; exact ((zMup.refl hM).u82 v (by omega) (by omega))⟩
    · refine r_iconst X dX6_bound_20 ?_
      exact r_iretp X M dX6_bound_21 ⟨by unfold s_bound; (repeat' split) <;> omega, by rw [zIf_n (by omega)]; exact zMup.refl hM⟩

set_option maxRecDepth 100000 in
set_option maxHeartbeats 4000000 in
theorem c_X6_counts (l : Launch) {D : va_G} {κ : Nat → ClassId} {a : Nat → Nat} {A : Nat → Prop} (hA : z_aD a A) (σ : zSt) (k v : Int) (hk : z_in k) (hv : z_in v) (V : zV) (hV : v_ok V) (hM : zModel σ V) : z_Tp l D κ a A yX6_counts cX6_counts 4 (some .int) 2 [.ref (a 80), .int (zI k), .int (zI v)] σ (fun z σ' => z = s_counts V k v ∧ zMup σ σ' (z_if z V (u_counts V k v))) := by
  refine z_Tp_of (cc := cX6_counts) (maxL := 4) (ret := (some .int)) (own := RX6) (lv0 := [some (.ref (a 80)), some (.int (zI k)), some (.int (zI v)), none]) hA (by decide) rfl (Nat.le_of_ble_eq_true rfl) rfl ?_
  intro p e s mm below meth c X M
  obtain ⟨⟨hv0, hv1, hv2, hv3, hv4, hv5⟩, hvm, hvb, hvk, hvc, hvd⟩ := hV
  have e0 := hM.1 0 (by omega) (by omega)
  have e1 := hM.1 1 (by omega) (by omega)
  refine r_aload0 X dX6_counts_0 ?_
  refine r_iload1 X dX6_counts_1 ?_
  refine r_callVi (n := 1) X (c_X6_isPicture l X.2.2.1 _ _ ⟨by omega, by omega⟩ ⟨by omega, by omega⟩) dX6_counts_2 tw_643 tw_645 tw_17 tw_46 tw_646 z_c80 (by decide) rfl rfl (Nat.le_of_ble_eq_true rfl) ⟨by decide, by decide⟩ (by decide +kernel) rfl ?_
  refine r_if_eqB (tgt := 20) X dX6_counts_5 (fun h5 => ?_) (fun h5 => ?_)
  · refine r_iconst X dX6_counts_20 ?_
    exact r_iretp X M dX6_counts_21 ⟨by unfold s_counts; (repeat' split) <;> omega, by rw [zIf_n (by omega)]; exact zMup.refl hM⟩
  · refine r_iload2 X dX6_counts_8 ?_
    refine r_i2l X dX6_counts_9 ⟨by omega, by omega⟩ ?_
    refine r_lconst X dX6_counts_10 1 (by decide +kernel) ?_
    refine r_ldc2 X dX6_counts_11 16 (by decide +kernel) tw_638 ?_
    refine r_callSi (n := 3) X (c_X6_in l X.2.2.1 _ _ _ _ ⟨by omega, by omega⟩ ⟨by omega, by omega⟩ ⟨by omega, by omega⟩) dX6_counts_14 tw_619 tw_620 tw_46 tw_621 rfl (Nat.le_of_ble_eq_true rfl) ⟨by decide, by decide⟩ (by decide +kernel) rfl ?_
    refine r_if_neB (tgt := 22) X dX6_counts_17 (fun h17 => ?_) (fun h17 => ?_)
    · have q1 := hvk k (by omega) (by omega)
      rw [show 19 + 2 * k = 18 + (2 * k + 1) by omega] at q1
      refine r_aload0 X dX6_counts_22 ?_
      refine r_get X 2 dX6_counts_23 z_c80 in_X6 tw_560 (by decide) rfl rfl (by decide) ?_
      refine r_iconst X dX6_counts_26 ?_
      refine r_iload1 X dX6_counts_27 ?_
      refine r_imul X dX6_counts_28 ?_
      refine r_iald X dX6_counts_29 z_c83 (by decide) ⟨by omega, by omega⟩ ?_
      refine r_eqi (hM.2.2.1 _ (by omega) (by omega)) ?_
      refine r_istore3 X dX6_counts_30 ?_
      refine r_aload0 X dX6_counts_31 ?_
      refine r_get X 2 dX6_counts_32 z_c80 in_X6 tw_560 (by decide) rfl rfl (by decide) ?_
      refine r_iconst X dX6_counts_35 ?_
      refine r_iload1 X dX6_counts_36 ?_
      refine r_imul X dX6_counts_37 ?_
      refine r_iload2 X dX6_counts_38 ?_
      refine r_iast X dX6_counts_39 z_c83 (by decide) ⟨by omega, by omega⟩ ?_
      refine r_iload3 X dX6_counts_40 ?_
      exact r_iretp X M dX6_counts_41 ⟨by unfold s_counts; (repeat' split) <;> omega, by rw [zIf_p (by omega)]; exact ((zMup.refl hM).u83 v (by omega) (by omega))⟩
    · refine r_iconst X dX6_counts_20 ?_
      exact r_iretp X M dX6_counts_21 ⟨by unfold s_counts; (repeat' split) <;> omega, by rw [zIf_n (by omega)]; exact zMup.refl hM⟩

set_option maxRecDepth 100000 in
set_option maxHeartbeats 4000000 in
theorem c_X6_scrub (l : Launch) {D : va_G} {κ : Nat → ClassId} {a : Nat → Nat} {A : Nat → Prop} (hA : z_aD a A) (σ : zSt) (k : Int) (hk : z_in k) (V : zV) (hV : v_ok V) (hM : zModel σ V) : z_Tp l D κ a A yX6_scrub cX6_scrub 2 (some .int) 2 [.ref (a 80), .int (zI k)] σ (fun z σ' => z = s_scrub V k ∧ zMup σ σ' (z_if z V (u_scrub V k))) := by
  refine z_Tp_of (cc := cX6_scrub) (maxL := 2) (ret := (some .int)) (own := RX6) (lv0 := [some (.ref (a 80)), some (.int (zI k))]) hA (by decide) rfl (Nat.le_of_ble_eq_true rfl) rfl ?_
  intro p e s mm below meth c X M
  obtain ⟨⟨hv0, hv1, hv2, hv3, hv4, hv5⟩, hvm, hvb, hvk, hvc, hvd⟩ := hV
  have e0 := hM.1 0 (by omega) (by omega)
  have e1 := hM.1 1 (by omega) (by omega)
  refine r_aload0 X dX6_scrub_0 ?_
  refine r_iload1 X dX6_scrub_1 ?_
  refine r_callVi (n := 1) X (c_X6_isPicture l X.2.2.1 _ _ ⟨by omega, by omega⟩ ⟨by omega, by omega⟩) dX6_scrub_2 tw_643 tw_645 tw_17 tw_46 tw_646 z_c80 (by decide) rfl rfl (Nat.le_of_ble_eq_true rfl) ⟨by decide, by decide⟩ (by decide +kernel) rfl ?_
  refine r_if_neB (tgt := 10) X dX6_scrub_5 (fun h5 => ?_) (fun h5 => ?_)
  · have q1 := hvk k (by omega) (by omega)
    rw [show 19 + 2 * k = 18 + (2 * k + 1) by omega] at q1
    refine r_aload0 X dX6_scrub_10 ?_
    refine r_iload1 X dX6_scrub_11 ?_
    refine r_callVi (n := 1) X (c_X6_dotMany l X.2.2.1 _ _ ⟨by omega, by omega⟩) dX6_scrub_12 tw_662 tw_664 tw_20 tw_46 tw_665 z_c80 (by decide) rfl rfl (Nat.le_of_ble_eq_true rfl) ⟨by decide, by decide⟩ (by decide +kernel) rfl ?_
    refine r_eqi (hM.2.2.1 _ (by omega) (by omega)) ?_
    refine r_if_ne (tgt := 21) X dX6_scrub_15 ⟨by omega, by omega⟩ (fun h15 => ?_) (fun h15 => ?_)
    · refine r_aload0 X dX6_scrub_21 ?_
      refine r_get X 2 dX6_scrub_22 z_c80 in_X6 tw_560 (by decide) rfl rfl (by decide) ?_
      refine r_iconst X dX6_scrub_25 ?_
      refine r_iload1 X dX6_scrub_26 ?_
      refine r_imul X dX6_scrub_27 ?_
      refine r_iconst X dX6_scrub_28 ?_
      refine r_iadd X dX6_scrub_29 ?_
      refine r_dup2 X dX6_scrub_30 rfl rfl ?_
      refine r_iald X dX6_scrub_31 z_c83 (by decide) ⟨by omega, by omega⟩ ?_
      refine r_eqi (hM.2.2.1 _ (by omega) (by omega)) ?_
      refine r_iconst X dX6_scrub_32 ?_
      refine r_isub X dX6_scrub_33 ?_
      refine r_iast X dX6_scrub_34 z_c83 (by decide) ⟨by omega, by omega⟩ ?_
      refine r_aload0 X dX6_scrub_35 ?_
      refine r_iload1 X dX6_scrub_36 ?_
      refine r_callVi (n := 1) X (c_X6_dotMany l X.2.2.1 _ _ ⟨by omega, by omega⟩) dX6_scrub_37 tw_662 tw_664 tw_20 tw_46 tw_665 z_c80 (by decide) rfl rfl (Nat.le_of_ble_eq_true rfl) ⟨by decide, by decide⟩ (by decide +kernel) rfl ?_
      refine r_eqi z_up_s ?_
      exact r_iretp X M dX6_scrub_40 ⟨by unfold s_scrub; (repeat' split) <;> omega, by rw [zIf_p (by omega)]; exact ((zMup.refl hM).u83 _ (by omega) (by omega))⟩
    · refine r_bipush X dX6_scrub_18 (by decide +kernel) ?_
      exact r_iretp X M dX6_scrub_20 ⟨by unfold s_scrub; (repeat' split) <;> omega, by rw [zIf_n (by omega)]; exact zMup.refl hM⟩
  · refine r_iconst X dX6_scrub_8 ?_
    exact r_iretp X M dX6_scrub_9 ⟨by unfold s_scrub; (repeat' split) <;> omega, by rw [zIf_n (by omega)]; exact zMup.refl hM⟩

set_option maxRecDepth 100000 in
set_option maxHeartbeats 4000000 in
theorem c_X6_rule (l : Launch) {D : va_G} {κ : Nat → ClassId} {a : Nat → Nat} {A : Nat → Prop} (hA : z_aD a A) (σ : zSt) (w v : Int) (hw : z_in w) (hv : z_in v) (V : zV) (hV : v_ok V) (hM : zModel σ V) : z_Tp l D κ a A yX6_rule cX6_rule 4 (some .int) 1 [.ref (a 80), .int (zI w), .int (zI v)] σ (fun z σ' => z = s_rule V w v ∧ zMup σ σ' (z_if z V (u_rule V w v))) := by
  refine z_Tp_of (cc := cX6_rule) (maxL := 4) (ret := (some .int)) (own := RX6) (lv0 := [some (.ref (a 80)), some (.int (zI w)), some (.int (zI v)), none]) hA (by decide) rfl (Nat.le_of_ble_eq_true rfl) rfl ?_
  intro p e s mm below meth c X M
  obtain ⟨⟨hv0, hv1, hv2, hv3, hv4, hv5⟩, hvm, hvb, hvk, hvc, hvd⟩ := hV
  have e0 := hM.1 0 (by omega) (by omega)
  have e1 := hM.1 1 (by omega) (by omega)
  refine r_iload1 X dX6_rule_0 ?_
  refine r_i2l X dX6_rule_1 ⟨by omega, by omega⟩ ?_
  refine r_lconst X dX6_rule_2 0 (by decide +kernel) ?_
  refine r_lconst X dX6_rule_3 1 (by decide +kernel) ?_
  refine r_callSi (n := 3) X (c_X6_in l X.2.2.1 _ _ _ _ ⟨by omega, by omega⟩ ⟨by omega, by omega⟩ ⟨by omega, by omega⟩) dX6_rule_4 tw_619 tw_620 tw_46 tw_621 rfl (Nat.le_of_ble_eq_true rfl) ⟨by decide, by decide⟩ (by decide +kernel) rfl ?_
  refine r_if_eqB (tgt := 33) X dX6_rule_7 (fun h7 => ?_) (fun h7 => ?_)
  · refine r_iconst X dX6_rule_33 ?_
    exact r_iretp X M dX6_rule_34 ⟨by unfold s_rule; (repeat' split) <;> omega, by rw [zIf_n (by omega)]; exact zMup.refl hM⟩
  · refine r_iload2 X dX6_rule_10 ?_
    refine r_i2l X dX6_rule_11 ⟨by omega, by omega⟩ ?_
    refine r_iload1 X dX6_rule_12 ?_
    refine r_i2l X dX6_rule_13 ⟨by omega, by omega⟩ ?_
    refine r_iload1 X dX6_rule_14 ?_
    refine r_if_ne (tgt := 24) X dX6_rule_15 ⟨by omega, by omega⟩ (fun h15 => ?_) (fun h15 => ?_)
    · refine r_ldc2 X dX6_rule_24 20 (by decide +kernel) tw_697 ?_
      refine r_callSi (n := 3) X (c_X6_in l X.2.2.1 _ _ _ _ ⟨by omega, by omega⟩ ⟨by omega, by omega⟩ ⟨by omega, by omega⟩) dX6_rule_27 tw_619 tw_620 tw_46 tw_621 rfl (Nat.le_of_ble_eq_true rfl) ⟨by decide, by decide⟩ (by decide +kernel) rfl ?_
      refine r_if_neB (tgt := 35) X dX6_rule_30 (fun h30 => ?_) (fun h30 => ?_)
      · have q0 : w = 0 ∨ w = 1 := by omega
        have q2 : V (2 + w) = V 2 ∨ V (2 + w) = V 3 := q0.elim (fun q => Or.inl (by rw [q]; rfl)) (fun q => Or.inr (by rw [q]; rfl))
        refine r_aload0 X dX6_rule_35 ?_
        refine r_get X 0 dX6_rule_36 z_c80 in_X6 tw_558 (by decide) rfl rfl (by decide) ?_
        refine r_iconst X dX6_rule_39 ?_
        refine r_iload1 X dX6_rule_40 ?_
        refine r_iadd X dX6_rule_41 ?_
        refine r_iald X dX6_rule_42 z_c81 (by decide) ⟨by omega, by omega⟩ ?_
        refine r_eqi (hM.1 _ (by omega) (by omega)) ?_
        refine r_istore3 X dX6_rule_43 ?_
        refine r_aload0 X dX6_rule_44 ?_
        refine r_get X 0 dX6_rule_45 z_c80 in_X6 tw_558 (by decide) rfl rfl (by decide) ?_
        refine r_iconst X dX6_rule_48 ?_
        refine r_iload1 X dX6_rule_49 ?_
        refine r_iadd X dX6_rule_50 ?_
        refine r_iload2 X dX6_rule_51 ?_
        refine r_iast X dX6_rule_52 z_c81 (by decide) ⟨by omega, by omega⟩ ?_
        refine r_iload3 X dX6_rule_53 ?_
        exact r_iretp X M dX6_rule_54 ⟨by unfold s_rule; (repeat' split) <;> omega, by rw [zIf_p (by omega)]; exact ((zMup.refl hM).u81 v (by omega) (by omega))⟩
      · refine r_iconst X dX6_rule_33 ?_
        exact r_iretp X M dX6_rule_34 ⟨by unfold s_rule; (repeat' split) <;> omega, by rw [zIf_n (by omega)]; exact zMup.refl hM⟩
    · refine r_ldc2 X dX6_rule_18 3 (by decide +kernel) tw_696 ?_
      refine r_goto (tgt := 27) X dX6_rule_21 (by decide) ?_
      refine r_callSi (n := 3) X (c_X6_in l X.2.2.1 _ _ _ _ ⟨by omega, by omega⟩ ⟨by omega, by omega⟩ ⟨by omega, by omega⟩) dX6_rule_27 tw_619 tw_620 tw_46 tw_621 rfl (Nat.le_of_ble_eq_true rfl) ⟨by decide, by decide⟩ (by decide +kernel) rfl ?_
      refine r_if_neB (tgt := 35) X dX6_rule_30 (fun h30 => ?_) (fun h30 => ?_)
      · have q0 : w = 0 ∨ w = 1 := by omega
        have q2 : V (2 + w) = V 2 ∨ V (2 + w) = V 3 := q0.elim (fun q => Or.inl (by rw [q]; rfl)) (fun q => Or.inr (by rw [q]; rfl))
        refine r_aload0 X dX6_rule_35 ?_
        refine r_get X 0 dX6_rule_36 z_c80 in_X6 tw_558 (by decide) rfl rfl (by decide) ?_
        refine r_iconst X dX6_rule_39 ?_
        refine r_iload1 X dX6_rule_40 ?_
        refine r_iadd X dX6_rule_41 ?_
        refine r_iald X dX6_rule_42 z_c81 (by decide) ⟨by omega, by omega⟩ ?_
        refine r_eqi (hM.1 _ (by omega) (by omega)) ?_
        refine r_istore3 X dX6_rule_43 ?_
        refine r_aload0 X dX6_rule_44 ?_
        refine r_get X 0 dX6_rule_45 z_c80 in_X6 tw_558 (by decide) rfl rfl (by decide) ?_
        refine r_iconst X dX6_rule_48 ?_
        refine r_iload1 X dX6_rule_49 ?_
        refine r_iadd X dX6_rule_50 ?_
        refine r_iload2 X dX6_rule_51 ?_
        refine r_iast X dX6_rule_52 z_c81 (by decide) ⟨by omega, by omega⟩ ?_
        refine r_iload3 X dX6_rule_53 ?_
        exact r_iretp X M dX6_rule_54 ⟨by unfold s_rule; (repeat' split) <;> omega, by rw [zIf_p (by omega)]; exact ((zMup.refl hM).u81 v (by omega) (by omega))⟩
      · refine r_iconst X dX6_rule_33 ?_
        exact r_iretp X M dX6_rule_34 ⟨by unfold s_rule; (repeat' split) <;> omega, by rw [zIf_n (by omega)]; exact zMup.refl hM⟩

set_option maxRecDepth 100000 in
set_option maxHeartbeats 4000000 in
theorem c_X6_drums (l : Launch) {D : va_G} {κ : Nat → ClassId} {a : Nat → Nat} {A : Nat → Prop} (hA : z_aD a A) (σ : zSt) (x y : Int) (hx : z_in x) (hy : z_in y) (V : zV) (hV : v_ok V) (hM : zModel σ V) : z_Tp l D κ a A yX6_drums cX6_drums 3 (some .int) 1 [.ref (a 80), .int (zI x), .int (zI y)] σ (fun z σ' => z = s_drums x y ∧ zMup σ σ' (z_if z V (u_drums V x y))) := by
  refine z_Tp_of (cc := cX6_drums) (maxL := 3) (ret := (some .int)) (own := RX6) (lv0 := [some (.ref (a 80)), some (.int (zI x)), some (.int (zI y))]) hA (by decide) rfl (Nat.le_of_ble_eq_true rfl) rfl ?_
  intro p e s mm below meth c X M
  obtain ⟨⟨hv0, hv1, hv2, hv3, hv4, hv5⟩, hvm, hvb, hvk, hvc, hvd⟩ := hV
  have e0 := hM.1 0 (by omega) (by omega)
  have e1 := hM.1 1 (by omega) (by omega)
  refine r_iload1 X dX6_drums_0 ?_
  refine r_i2l X dX6_drums_1 ⟨by omega, by omega⟩ ?_
  refine r_lconst X dX6_drums_2 0 (by decide +kernel) ?_
  refine r_ldc2 X dX6_drums_3 40 (by decide +kernel) tw_670 ?_
  refine r_callSi (n := 3) X (c_X6_in l X.2.2.1 _ _ _ _ ⟨by omega, by omega⟩ ⟨by omega, by omega⟩ ⟨by omega, by omega⟩) dX6_drums_6 tw_619 tw_620 tw_46 tw_621 rfl (Nat.le_of_ble_eq_true rfl) ⟨by decide, by decide⟩ (by decide +kernel) rfl ?_
  refine r_if_eqB (tgt := 24) X dX6_drums_9 (fun h9 => ?_) (fun h9 => ?_)
  · refine r_bipush X dX6_drums_24 (by decide +kernel) ?_
    exact r_iretp X M dX6_drums_26 ⟨by unfold s_drums; (repeat' split) <;> omega, by rw [zIf_n (by omega)]; exact zMup.refl hM⟩
  · refine r_iload2 X dX6_drums_12 ?_
    refine r_i2l X dX6_drums_13 ⟨by omega, by omega⟩ ?_
    refine r_lconst X dX6_drums_14 0 (by decide +kernel) ?_
    refine r_ldc2 X dX6_drums_15 40 (by decide +kernel) tw_670 ?_
    refine r_callSi (n := 3) X (c_X6_in l X.2.2.1 _ _ _ _ ⟨by omega, by omega⟩ ⟨by omega, by omega⟩ ⟨by omega, by omega⟩) dX6_drums_18 tw_619 tw_620 tw_46 tw_621 rfl (Nat.le_of_ble_eq_true rfl) ⟨by decide, by decide⟩ (by decide +kernel) rfl ?_
    refine r_if_neB (tgt := 27) X dX6_drums_21 (fun h21 => ?_) (fun h21 => ?_)
    · refine r_aload0 X dX6_drums_27 ?_
      refine r_get X 0 dX6_drums_28 z_c80 in_X6 tw_558 (by decide) rfl rfl (by decide) ?_
      refine r_iconst X dX6_drums_31 ?_
      refine r_iload1 X dX6_drums_32 ?_
      refine r_iast X dX6_drums_33 z_c81 (by decide) ⟨by omega, by omega⟩ ?_
      refine r_aload0 X dX6_drums_34 ?_
      refine r_get X 0 dX6_drums_35 z_c80 in_X6 tw_558 (by decide) rfl rfl (by decide) ?_
      refine r_iconst X dX6_drums_38 ?_
      refine r_iload2 X dX6_drums_39 ?_
      refine r_iast X dX6_drums_40 z_c81 (by decide) ⟨by omega, by omega⟩ ?_
      refine r_iconst X dX6_drums_41 ?_
      exact r_iretp X M dX6_drums_42 ⟨by unfold s_drums; (repeat' split) <;> omega, by rw [zIf_p (by omega)]; exact (((zMup.refl hM).u81 x (by omega) (by omega)).u81 y (by omega) (by omega))⟩
    · refine r_bipush X dX6_drums_24 (by decide +kernel) ?_
      exact r_iretp X M dX6_drums_26 ⟨by unfold s_drums; (repeat' split) <;> omega, by rw [zIf_n (by omega)]; exact zMup.refl hM⟩

set_option maxRecDepth 100000 in
set_option maxHeartbeats 4000000 in
theorem c_X6_solo (l : Launch) {D : va_G} {κ : Nat → ClassId} {a : Nat → Nat} {A : Nat → Prop} (hA : z_aD a A) (σ : zSt) (k d i : Int) (hk : z_in k) (hd : z_in d) (hi : i = 0 ∨ i = 1) (V : zV) (hV : v_ok V) (hM : zModel σ V) : z_Tp l D κ a A yX6_solo cX6_solo 7 (some .int) 3 [.ref (a 80), .int (zI k), .int (zI d), .int (zI i)] σ (fun z σ' => z = s_solo V k d i ∧ zMup σ σ' (z_if z V (u_solo V k d i))) := by
  refine z_Tp_of (cc := cX6_solo) (maxL := 7) (ret := (some .int)) (own := RX6) (lv0 := [some (.ref (a 80)), some (.int (zI k)), some (.int (zI d)), some (.int (zI i)), none, none, none]) hA (by decide) rfl (Nat.le_of_ble_eq_true rfl) rfl ?_
  intro p e s mm below meth c X M
  obtain ⟨⟨hv0, hv1, hv2, hv3, hv4, hv5⟩, hvm, hvb, hvk, hvc, hvd⟩ := hV
  have e0 := hM.1 0 (by omega) (by omega)
  have e1 := hM.1 1 (by omega) (by omega)
  have q8 : σ 83 (2 * k + 1) = V (18 + (2 * k + 1)) ∨ ¬ (0 ≤ k ∧ k < V 1) := by
    by_cases q : 0 ≤ k ∧ k < V 1
    · exact Or.inl (hM.2.2.1 (2 * k + 1) (by omega) (by omega))
    · exact Or.inr q
  refine r_aload0 X dX6_solo_0 ?_
  refine r_iload1 X dX6_solo_1 ?_
  refine r_iload2 X dX6_solo_2 ?_
  refine r_callVi (n := 2) X (c_X6_isDot l X.2.2.1 _ _ _ ⟨by omega, by omega⟩ ⟨by omega, by omega⟩ ⟨by omega, by omega⟩ (fun k h0 h1 => by have q1 := hvk k h0 h1; have q2 := hM.2.2.1 (2 * k + 1) (by omega) (by omega); rw [show 18 + (2 * k + 1) = 19 + 2 * k by omega] at q2; omega)) dX6_solo_3 tw_684 tw_686 tw_22 tw_46 tw_687 z_c80 (by decide) rfl rfl (Nat.le_of_ble_eq_true rfl) ⟨by decide, by decide⟩ (by decide +kernel) rfl ?_
  refine r_if_neB (tgt := 11) X dX6_solo_6 (fun h6 => ?_) (fun h6 => ?_)
  · have q0 := hvk k (by omega) (by omega)
    have q9 := hM.2.2.1 (2 * k + 1) (by omega) (by omega)
    have q3 := hvd (7 * k + d) (by omega) (by rw [show 19 + 2 * k = 18 + (2 * k + 1) by omega] at q0; omega)
    rw [show 19 + 2 * k = 18 + (2 * k + 1) by omega] at q0
    rw [show 29 + 3 * (7 * k + d) = 28 + (3 * (7 * k + d) + 1) by omega, show 30 + 3 * (7 * k + d) = 28 + (3 * (7 * k + d) + 2) by omega] at q3
    refine r_iconst X dX6_solo_11 ?_
    refine r_bipush X dX6_solo_12 (by decide +kernel) ?_
    refine r_iload1 X dX6_solo_14 ?_
    refine r_imul X dX6_solo_15 ?_
    refine r_iload2 X dX6_solo_16 ?_
    refine r_iadd X dX6_solo_17 ?_
    refine r_imul X dX6_solo_18 ?_
    refine r_iconst X dX6_solo_19 ?_
    refine r_iadd X dX6_solo_20 ?_
    refine r_istore4 X dX6_solo_21 ?_
    refine r_iload3 X dX6_solo_23 ?_
    refine r_if_eq (tgt := 31) X dX6_solo_24 ⟨by omega, by omega⟩ (fun h24 => ?_) (fun h24 => ?_)
    · refine r_iconst X dX6_solo_31 ?_
      refine r_istore5 X dX6_solo_32 ?_
      refine r_aload0 X dX6_solo_34 ?_
      refine r_get X 3 dX6_solo_35 z_c80 in_X6 tw_561 (by decide) rfl rfl (by decide) ?_
      refine r_iload4 X dX6_solo_38 ?_
      refine r_iald X dX6_solo_40 z_c84 (by decide) ⟨by omega, by omega⟩ ?_
      refine r_eqi (hM.2.2.2 _ (by omega) (by omega)) ?_
      refine r_iload5 X dX6_solo_41 ?_
      refine r_icmp_ne (tgt := 50) X dX6_solo_43 ⟨⟨by omega, by omega⟩, by omega, by omega⟩ (fun h43 => ?_) (fun h43 => ?_)
      · refine r_iconst X dX6_solo_50 ?_
        refine r_istore6 X dX6_solo_51 ?_
        refine r_aload0 X dX6_solo_53 ?_
        refine r_get X 3 dX6_solo_54 z_c80 in_X6 tw_561 (by decide) rfl rfl (by decide) ?_
        refine r_iload4 X dX6_solo_57 ?_
        refine r_iload5 X dX6_solo_59 ?_
        refine r_iast X dX6_solo_61 z_c84 (by decide) ⟨by omega, by omega⟩ ?_
        refine r_iload6 X dX6_solo_62 ?_
        exact r_iretp X M dX6_solo_64 ⟨by unfold s_solo; (repeat' split) <;> omega, by rw [zIf_p (by omega)]; exact ((zMup.refl hM).u84 _ (by omega) (by omega)).eq (by unfold u_solo; congr 1; omega)⟩
      · refine r_iconst X dX6_solo_46 ?_
        refine r_goto (tgt := 51) X dX6_solo_47 (by decide) ?_
        refine r_istore6 X dX6_solo_51 ?_
        refine r_aload0 X dX6_solo_53 ?_
        refine r_get X 3 dX6_solo_54 z_c80 in_X6 tw_561 (by decide) rfl rfl (by decide) ?_
        refine r_iload4 X dX6_solo_57 ?_
        refine r_iload5 X dX6_solo_59 ?_
        refine r_iast X dX6_solo_61 z_c84 (by decide) ⟨by omega, by omega⟩ ?_
        refine r_iload6 X dX6_solo_62 ?_
        exact r_iretp X M dX6_solo_64 ⟨by unfold s_solo; (repeat' split) <;> omega, by rw [zIf_p (by omega)]; exact ((zMup.refl hM).u84 _ (by omega) (by omega)).eq (by unfold u_solo; congr 1; omega)⟩
    · refine r_iconst X dX6_solo_27 ?_
      refine r_goto (tgt := 32) X dX6_solo_28 (by decide) ?_
      refine r_istore5 X dX6_solo_32 ?_
      refine r_aload0 X dX6_solo_34 ?_
      refine r_get X 3 dX6_solo_35 z_c80 in_X6 tw_561 (by decide) rfl rfl (by decide) ?_
      refine r_iload4 X dX6_solo_38 ?_
      refine r_iald X dX6_solo_40 z_c84 (by decide) ⟨by omega, by omega⟩ ?_
      refine r_eqi (hM.2.2.2 _ (by omega) (by omega)) ?_
      refine r_iload5 X dX6_solo_41 ?_
      refine r_icmp_ne (tgt := 50) X dX6_solo_43 ⟨⟨by omega, by omega⟩, by omega, by omega⟩ (fun h43 => ?_) (fun h43 => ?_)
      · refine r_iconst X dX6_solo_50 ?_
        refine r_istore6 X dX6_solo_51 ?_
        refine r_aload0 X dX6_solo_53 ?_
        refine r_get X 3 dX6_solo_54 z_c80 in_X6 tw_561 (by decide) rfl rfl (by decide) ?_
        refine r_iload4 X dX6_solo_57 ?_
        refine r_iload5 X dX6_solo_59 ?_
        refine r_iast X dX6_solo_61 z_c84 (by decide) ⟨by omega, by omega⟩ ?_
        refine r_iload6 X dX6_solo_62 ?_
        exact r_iretp X M dX6_solo_64 ⟨by unfold s_solo; (repeat' split) <;> omega, by rw [zIf_p (by omega)]; exact ((zMup.refl hM).u84 _ (by omega) (by omega)).eq (by unfold u_solo; congr 1; omega)⟩
      · refine r_iconst X dX6_solo_46 ?_
        refine r_goto (tgt := 51) X dX6_solo_47 (by decide) ?_
        refine r_istore6 X dX6_solo_51 ?_
        refine r_aload0 X dX6_solo_53 ?_
        refine r_get X 3 dX6_solo_54 z_c80 in_X6 tw_561 (by decide) rfl rfl (by decide) ?_
        refine r_iload4 X dX6_solo_57 ?_
        refine r_iload5 X dX6_solo_59 ?_
        refine r_iast X dX6_solo_61 z_c84 (by decide) ⟨by omega, by omega⟩ ?_
        refine r_iload6 X dX6_solo_62 ?_
        exact r_iretp X M dX6_solo_64 ⟨by unfold s_solo; (repeat' split) <;> omega, by rw [zIf_p (by omega)]; exact ((zMup.refl hM).u84 _ (by omega) (by omega)).eq (by unfold u_solo; congr 1; omega)⟩
  · refine r_iconst X dX6_solo_9 ?_
    exact r_iretp X M dX6_solo_10 ⟨by unfold s_solo; (repeat' split) <;> omega, by rw [zIf_n (by omega)]; exact zMup.refl hM⟩

set_option maxRecDepth 100000 in
set_option maxHeartbeats 4000000 in
theorem c_X6_dot (l : Launch) {D : va_G} {κ : Nat → ClassId} {a : Nat → Nat} {A : Nat → Prop} (hA : z_aD a A) (σ : zSt) (k d w : Int) (hk : z_in k) (hd : z_in d) (hw : z_in w) (V : zV) (hV : v_ok V) (hM : zModel σ V) : z_Tp l D κ a A yX6_dot cX6_dot 4 (some .int) 3 [.ref (a 80), .int (zI k), .int (zI d), .int (zI w)] σ (fun z σ' => z = s_dot V k d w ∧ zMup σ σ' (z_if z V (V))) := by
  refine z_Tp_of (cc := cX6_dot) (maxL := 4) (ret := (some .int)) (own := RX6) (lv0 := [some (.ref (a 80)), some (.int (zI k)), some (.int (zI d)), some (.int (zI w))]) hA (by decide) rfl (Nat.le_of_ble_eq_true rfl) rfl ?_
  intro p e s mm below meth c X M
  obtain ⟨⟨hv0, hv1, hv2, hv3, hv4, hv5⟩, hvm, hvb, hvk, hvc, hvd⟩ := hV
  have e0 := hM.1 0 (by omega) (by omega)
  have e1 := hM.1 1 (by omega) (by omega)
  have q8 : σ 83 (2 * k + 1) = V (18 + (2 * k + 1)) ∨ ¬ (0 ≤ k ∧ k < V 1) := by
    by_cases q : 0 ≤ k ∧ k < V 1
    · exact Or.inl (hM.2.2.1 (2 * k + 1) (by omega) (by omega))
    · exact Or.inr q
  refine r_aload0 X dX6_dot_0 ?_
  refine r_iload1 X dX6_dot_1 ?_
  refine r_iload2 X dX6_dot_2 ?_
  refine r_callVi (n := 2) X (c_X6_isDot l X.2.2.1 _ _ _ ⟨by omega, by omega⟩ ⟨by omega, by omega⟩ ⟨by omega, by omega⟩ (fun k h0 h1 => by have q1 := hvk k h0 h1; have q2 := hM.2.2.1 (2 * k + 1) (by omega) (by omega); rw [show 18 + (2 * k + 1) = 19 + 2 * k by omega] at q2; omega)) dX6_dot_3 tw_684 tw_686 tw_22 tw_46 tw_687 z_c80 (by decide) rfl rfl (Nat.le_of_ble_eq_true rfl) ⟨by decide, by decide⟩ (by decide +kernel) rfl ?_
  refine r_if_eqB (tgt := 39) X dX6_dot_6 (fun h6 => ?_) (fun h6 => ?_)
  · refine r_iconst X dX6_dot_39 ?_
    exact r_iretp X M dX6_dot_40 ⟨by unfold s_dot; (repeat' split) <;> omega, by unfold z_if; split <;> exact zMup.refl hM⟩
  · refine r_iload3 X dX6_dot_9 ?_
    refine r_i2l X dX6_dot_10 ⟨by omega, by omega⟩ ?_
    refine r_lconst X dX6_dot_11 0 (by decide +kernel) ?_
    refine r_ldc2 X dX6_dot_12 2 (by decide +kernel) tw_706 ?_
    refine r_callSi (n := 3) X (c_X6_in l X.2.2.1 _ _ _ _ ⟨by omega, by omega⟩ ⟨by omega, by omega⟩ ⟨by omega, by omega⟩) dX6_dot_15 tw_619 tw_620 tw_46 tw_621 rfl (Nat.le_of_ble_eq_true rfl) ⟨by decide, by decide⟩ (by decide +kernel) rfl ?_
    refine r_if_eqB (tgt := 39) X dX6_dot_18 (fun h18 => ?_) (fun h18 => ?_)
    · refine r_iconst X dX6_dot_39 ?_
      exact r_iretp X M dX6_dot_40 ⟨by unfold s_dot; (repeat' split) <;> omega, by unfold z_if; split <;> exact zMup.refl hM⟩
    · have q0 := hvk k (by omega) (by omega)
      have q9 := hM.2.2.1 (2 * k + 1) (by omega) (by omega)
      have q3 := hvd (7 * k + d) (by omega) (by rw [show 19 + 2 * k = 18 + (2 * k + 1) by omega] at q0; omega)
      rw [show 19 + 2 * k = 18 + (2 * k + 1) by omega] at q0
      rw [show 29 + 3 * (7 * k + d) = 28 + (3 * (7 * k + d) + 1) by omega, show 30 + 3 * (7 * k + d) = 28 + (3 * (7 * k + d) + 2) by omega] at q3
      refine r_aload0 X dX6_dot_21 ?_
      refine r_get X 3 dX6_dot_22 z_c80 in_X6 tw_561 (by decide) rfl rfl (by decide) ?_
      refine r_iconst X dX6_dot_25 ?_
      refine r_bipush X dX6_dot_26 (by decide +kernel) ?_
      refine r_iload1 X dX6_dot_28 ?_
      refine r_imul X dX6_dot_29 ?_
      refine r_iload2 X dX6_dot_30 ?_
      refine r_iadd X dX6_dot_31 ?_
      refine r_imul X dX6_dot_32 ?_
      refine r_iload3 X dX6_dot_33 ?_
      refine r_iadd X dX6_dot_34 ?_
      refine r_iald X dX6_dot_35 z_c84 (by decide) ⟨by omega, by omega⟩ ?_
      refine r_eqi (hM.2.2.2 _ (by omega) (by omega)) ?_
      refine r_goto (tgt := 40) X dX6_dot_36 (by decide) ?_
      exact r_iretp X M dX6_dot_40 ⟨by unfold s_dot; (repeat' split) <;> omega, by unfold z_if; split <;> exact zMup.refl hM⟩

