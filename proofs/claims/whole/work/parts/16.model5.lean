set_option maxRecDepth 100000 in
set_option maxHeartbeats 4000000 in
theorem c_X6_size (l : Launch) {D : va_G} {κ : Nat → ClassId} {a : Nat → Nat} {A : Nat → Prop} (hA : z_aD a A) (σ : zSt) (x : Int) (hx : -1000000 ≤ x ∧ x ≤ 1000000) : z_Ti l D κ a A yX6_size cX6_size 1 (some .int) 0 [.int (zI x)] σ (z_abs x) (σ) := by
  refine z_Ti_of (cc := cX6_size) (maxL := 1) (ret := (some .int)) (own := RX6) (lv0 := [some (.int (zI x))]) hA (by decide) rfl (Nat.le_of_ble_eq_true rfl) rfl ?_
  intro p e s mm below meth c X M
  refine r_iload0 X dX6_size_0 ?_
  refine r_if_ge (tgt := 9) X dX6_size_1 ⟨by omega, by omega⟩ (fun h1 => ?_) (fun h1 => ?_)
  · refine r_iload0 X dX6_size_9 ?_
    exact r_iret X M dX6_size_10 (by unfold z_abs; split <;> omega) rfl
  · refine r_iload0 X dX6_size_4 ?_
    refine r_ineg X dX6_size_5 ?_
    refine r_goto (tgt := 10) X dX6_size_6 (by decide) ?_
    exact r_iret X M dX6_size_10 (by unfold z_abs; split <;> omega) rfl

set_option maxRecDepth 100000 in
set_option maxHeartbeats 4000000 in
theorem c_X6_greater (l : Launch) {D : va_G} {κ : Nat → ClassId} {a : Nat → Nat} {A : Nat → Prop} (hA : z_aD a A) (σ : zSt) (x y : Int) (hx : z_in x) (hy : z_in y) : z_Ti l D κ a A yX6_greater cX6_greater 2 (some .int) 0 [.int (zI x), .int (zI y)] σ (max x y) (σ) := by
  refine z_Ti_of (cc := cX6_greater) (maxL := 2) (ret := (some .int)) (own := RX6) (lv0 := [some (.int (zI x)), some (.int (zI y))]) hA (by decide) rfl (Nat.le_of_ble_eq_true rfl) rfl ?_
  intro p e s mm below meth c X M
  refine r_iload0 X dX6_greater_0 ?_
  refine r_iload1 X dX6_greater_1 ?_
  refine r_icmp_le (tgt := 9) X dX6_greater_2 ⟨⟨by omega, by omega⟩, by omega, by omega⟩ (fun h2 => ?_) (fun h2 => ?_)
  · refine r_iload1 X dX6_greater_9 ?_
    exact r_iret X M dX6_greater_10 (by omega) rfl
  · refine r_iload0 X dX6_greater_5 ?_
    refine r_goto (tgt := 10) X dX6_greater_6 (by decide) ?_
    exact r_iret X M dX6_greater_10 (by omega) rfl

set_option maxRecDepth 100000 in
set_option maxHeartbeats 4000000 in
theorem c_X6_x (l : Launch) {D : va_G} {κ : Nat → ClassId} {a : Nat → Nat} {A : Nat → Prop} (hA : z_aD a A) (σ : zSt) (k d : Int) (hk : 0 ≤ k ∧ k < 5) (hd : 0 ≤ d ∧ d < 7) (V : zV) (hM : zModel σ V) : z_Ti l D κ a A yX6_x cX6_x 3 (some .int) 0 [.ref (a 80), .int (zI k), .int (zI d)] σ (vx V k d) (σ) := by
  refine z_Ti_of (cc := cX6_x) (maxL := 3) (ret := (some .int)) (own := RX6) (lv0 := [some (.ref (a 80)), some (.int (zI k)), some (.int (zI d))]) hA (by decide) rfl (Nat.le_of_ble_eq_true rfl) rfl ?_
  intro p e s mm below meth c X M
  refine r_aload0 X dX6_x_0 ?_
  refine r_get X 3 dX6_x_1 z_c80 in_X6 tw_561 (by decide) rfl rfl (by decide) ?_
  refine r_iconst X dX6_x_4 ?_
  refine r_bipush X dX6_x_5 (by decide +kernel) ?_
  refine r_iload1 X dX6_x_7 ?_
  refine r_imul X dX6_x_8 ?_
  refine r_iload2 X dX6_x_9 ?_
  refine r_iadd X dX6_x_10 ?_
  refine r_imul X dX6_x_11 ?_
  refine r_iald X dX6_x_12 z_c84 (by decide) ⟨by omega, by omega⟩ ?_
  refine r_eqi (hM.2.2.2 _ (by omega) (by omega)) ?_
  exact r_iret X M dX6_x_13 rfl rfl

set_option maxRecDepth 100000 in
set_option maxHeartbeats 4000000 in
theorem c_X6_y (l : Launch) {D : va_G} {κ : Nat → ClassId} {a : Nat → Nat} {A : Nat → Prop} (hA : z_aD a A) (σ : zSt) (k d : Int) (hk : 0 ≤ k ∧ k < 5) (hd : 0 ≤ d ∧ d < 7) (V : zV) (hM : zModel σ V) : z_Ti l D κ a A yX6_y cX6_y 3 (some .int) 0 [.ref (a 80), .int (zI k), .int (zI d)] σ (vy V k d) (σ) := by
  refine z_Ti_of (cc := cX6_y) (maxL := 3) (ret := (some .int)) (own := RX6) (lv0 := [some (.ref (a 80)), some (.int (zI k)), some (.int (zI d))]) hA (by decide) rfl (Nat.le_of_ble_eq_true rfl) rfl ?_
  intro p e s mm below meth c X M
  refine r_aload0 X dX6_y_0 ?_
  refine r_get X 3 dX6_y_1 z_c80 in_X6 tw_561 (by decide) rfl rfl (by decide) ?_
  refine r_iconst X dX6_y_4 ?_
  refine r_bipush X dX6_y_5 (by decide +kernel) ?_
  refine r_iload1 X dX6_y_7 ?_
  refine r_imul X dX6_y_8 ?_
  refine r_iload2 X dX6_y_9 ?_
  refine r_iadd X dX6_y_10 ?_
  refine r_imul X dX6_y_11 ?_
  refine r_iconst X dX6_y_12 ?_
  refine r_iadd X dX6_y_13 ?_
  refine r_iald X dX6_y_14 z_c84 (by decide) ⟨by omega, by omega⟩ ?_
  refine r_eqi (hM.2.2.2 _ (by omega) (by omega)) ?_
  exact r_iret X M dX6_y_15 rfl rfl

set_option maxRecDepth 100000 in
set_option maxHeartbeats 4000000 in
theorem c_X6_stepTo (l : Launch) {D : va_G} {κ : Nat → ClassId} {a : Nat → Nat} {A : Nat → Prop} (hA : z_aD a A) (σ : zSt) (p m d f : Int) (hp : 1 ≤ p ∧ p < 5) (hm : 0 ≤ m ∧ m < 6) (hd : 0 ≤ d ∧ d < 7) (hf : 0 ≤ f ∧ f < 7) (hg : σ 88 (6 * (p - 1) + m) = f) (V : zV) (hV : v_ok V) (hM : zModel σ V) : z_Ti l D κ a A yX6_stepTo cX6_stepTo 5 (some .int) 1 [.ref (a 80), .int (zI p), .int (zI m), .int (zI d)] σ (vstep V p f d) (σ) := by
  refine z_Ti_of (cc := cX6_stepTo) (maxL := 5) (ret := (some .int)) (own := RX6) (lv0 := [some (.ref (a 80)), some (.int (zI p)), some (.int (zI m)), some (.int (zI d)), none]) hA (by decide) rfl (Nat.le_of_ble_eq_true rfl) rfl ?_
  intro p_ e s mm below meth c X M
  have b1 := vxy_in hV (k := p) (d := d) (by omega) hd
  have b2 := vxy_in hV (k := p - 1) (d := f) (by omega) hf
  have e1 := z_abs_in (x := vx V p d - vx V (p - 1) f) (b := 40) (by omega)
  have e2 := z_abs_in (x := vy V p d - vy V (p - 1) f) (b := 40) (by omega)
  refine r_aload0 X dX6_stepTo_0 ?_
  refine r_get X 9 dX6_stepTo_1 z_c80 in_X6 tw_567 (by decide) rfl rfl (by decide) ?_
  refine r_bipush X dX6_stepTo_4 (by decide +kernel) ?_
  refine r_iload1 X dX6_stepTo_6 ?_
  refine r_iconst X dX6_stepTo_7 ?_
  refine r_isub X dX6_stepTo_8 ?_
  refine r_imul X dX6_stepTo_9 ?_
  refine r_iload2 X dX6_stepTo_10 ?_
  refine r_iadd X dX6_stepTo_11 ?_
  refine r_iald X dX6_stepTo_12 z_c88 (by decide) ⟨by omega, by omega⟩ ?_
  refine r_eqi hg ?_
  refine r_istore4 X dX6_stepTo_13 ?_
  refine r_aload0 X dX6_stepTo_15 ?_
  refine r_iload1 X dX6_stepTo_16 ?_
  refine r_iload3 X dX6_stepTo_17 ?_
  refine r_callVi (n := 2) X (c_X6_x l X.2.2.1 _ _ _ ⟨by omega, by omega⟩ ⟨by omega, by omega⟩ V hM) dX6_stepTo_18 tw_735 tw_737 tw_29 tw_46 tw_738 z_c80 (by decide) rfl rfl (Nat.le_of_ble_eq_true rfl) ⟨by decide, by decide⟩ (by decide +kernel) rfl ?_
  refine r_aload0 X dX6_stepTo_21 ?_
  refine r_iload1 X dX6_stepTo_22 ?_
  refine r_iconst X dX6_stepTo_23 ?_
  refine r_isub X dX6_stepTo_24 ?_
  refine r_iload4 X dX6_stepTo_25 ?_
  refine r_callVi (n := 2) X (c_X6_x l X.2.2.1 _ _ _ ⟨by omega, by omega⟩ ⟨by omega, by omega⟩ V hM) dX6_stepTo_27 tw_735 tw_737 tw_29 tw_46 tw_738 z_c80 (by decide) rfl rfl (Nat.le_of_ble_eq_true rfl) ⟨by decide, by decide⟩ (by decide +kernel) rfl ?_
  refine r_isub X dX6_stepTo_30 ?_
  refine r_callSi (n := 1) X (c_X6_size l X.2.2.1 _ _ ⟨by omega, by omega⟩) dX6_stepTo_31 tw_739 tw_740 tw_46 tw_741 rfl (Nat.le_of_ble_eq_true rfl) ⟨by decide, by decide⟩ (by decide +kernel) rfl ?_
  refine r_aload0 X dX6_stepTo_34 ?_
  refine r_iload1 X dX6_stepTo_35 ?_
  refine r_iload3 X dX6_stepTo_36 ?_
  refine r_callVi (n := 2) X (c_X6_y l X.2.2.1 _ _ _ ⟨by omega, by omega⟩ ⟨by omega, by omega⟩ V hM) dX6_stepTo_37 tw_742 tw_744 tw_30 tw_46 tw_745 z_c80 (by decide) rfl rfl (Nat.le_of_ble_eq_true rfl) ⟨by decide, by decide⟩ (by decide +kernel) rfl ?_
  refine r_aload0 X dX6_stepTo_40 ?_
  refine r_iload1 X dX6_stepTo_41 ?_
  refine r_iconst X dX6_stepTo_42 ?_
  refine r_isub X dX6_stepTo_43 ?_
  refine r_iload4 X dX6_stepTo_44 ?_
  refine r_callVi (n := 2) X (c_X6_y l X.2.2.1 _ _ _ ⟨by omega, by omega⟩ ⟨by omega, by omega⟩ V hM) dX6_stepTo_46 tw_742 tw_744 tw_30 tw_46 tw_745 z_c80 (by decide) rfl rfl (Nat.le_of_ble_eq_true rfl) ⟨by decide, by decide⟩ (by decide +kernel) rfl ?_
  refine r_isub X dX6_stepTo_49 ?_
  refine r_callSi (n := 1) X (c_X6_size l X.2.2.1 _ _ ⟨by omega, by omega⟩) dX6_stepTo_50 tw_739 tw_740 tw_46 tw_741 rfl (Nat.le_of_ble_eq_true rfl) ⟨by decide, by decide⟩ (by decide +kernel) rfl ?_
  refine r_callSi (n := 2) X (c_X6_greater l X.2.2.1 _ _ _ ⟨by omega, by omega⟩ ⟨by omega, by omega⟩) dX6_stepTo_53 tw_746 tw_747 tw_46 tw_748 rfl (Nat.le_of_ble_eq_true rfl) ⟨by decide, by decide⟩ (by decide +kernel) rfl ?_
  exact r_iret X M dX6_stepTo_56 rfl rfl

set_option maxRecDepth 100000 in
set_option maxHeartbeats 4000000 in
theorem c_X6_nearest (l : Launch) {D : va_G} {κ : Nat → ClassId} {a : Nat → Nat} {A : Nat → Prop} (hA : z_aD a A) (σ : zSt) (k m1 d1 m2 d2 f1 f2 : Int) (hp : 1 ≤ k ∧ k < 5) (hm1 : 0 ≤ m1 ∧ m1 < 6) (hm2 : 0 ≤ m2 ∧ m2 < 6) (hd1 : 0 ≤ d1 ∧ d1 < 7) (hd2 : 0 ≤ d2 ∧ d2 < 7) (hf1 : 0 ≤ f1 ∧ f1 < 7) (hf2 : 0 ≤ f2 ∧ f2 < 7) (hg1 : σ 88 (6 * (k - 1) + m1) = f1) (hg2 : σ 88 (6 * (k - 1) + m2) = f2) (V : zV) (hV : v_ok V) (hM : zModel σ V) (hcn : 1 ≤ vc V k)  : z_Ti l D κ a A yX6_nearest cX6_nearest 16 (some .int) 1 [.ref (a 80), .int (zI k), .int (zI m1), .int (zI d1), .int (zI m2), .int (zI d2)] σ (vnear V k f1 d1 f2 d2) (σ) := by
  refine z_Ti_of (cc := cX6_nearest) (maxL := 16) (ret := (some .int)) (own := RX6) (lv0 := [some (.ref (a 80)), some (.int (zI k)), some (.int (zI m1)), some (.int (zI d1)), some (.int (zI m2)), some (.int (zI d2)), none, none, none, none, none, none, none, none, none, none]) hA (by decide) rfl (Nat.le_of_ble_eq_true rfl) rfl ?_
  intro p e s mm below meth c X M
  have b1 := vxy_in hV (k := k) (d := d1) (by omega) hd1
  have b2 := vxy_in hV (k := k) (d := d2) (by omega) hd2
  have b3 := vxy_in hV (k := k - 1) (d := f1) (by omega) hf1
  have b4 := vxy_in hV (k := k - 1) (d := f2) (by omega) hf2
  have b5 := vn_in hV (k := k) (by omega)
  refine r_iconst X dX6_nearest_0 ?_
  refine r_aload0 X dX6_nearest_1 ?_
  refine r_get X 2 dX6_nearest_2 z_c80 in_X6 tw_560 (by decide) rfl rfl (by decide) ?_
  refine r_iconst X dX6_nearest_5 ?_
  refine r_iload1 X dX6_nearest_6 ?_
  refine r_imul X dX6_nearest_7 ?_
  refine r_iald X dX6_nearest_8 z_c83 (by decide) ⟨by omega, by omega⟩ ?_
  refine r_eqi (hM.2.2.1 _ (by omega) (by omega)) ?_
  refine r_imul X dX6_nearest_9 ?_
  refine r_istore6 X dX6_nearest_10 ?_
  refine r_aload0 X dX6_nearest_12 ?_
  refine r_get X 9 dX6_nearest_13 z_c80 in_X6 tw_567 (by decide) rfl rfl (by decide) ?_
  refine r_bipush X dX6_nearest_16 (by decide +kernel) ?_
  refine r_iload1 X dX6_nearest_18 ?_
  refine r_iconst X dX6_nearest_19 ?_
  refine r_isub X dX6_nearest_20 ?_
  refine r_imul X dX6_nearest_21 ?_
  refine r_iload2 X dX6_nearest_22 ?_
  refine r_iadd X dX6_nearest_23 ?_
  refine r_iald X dX6_nearest_24 z_c88 (by decide) ⟨by omega, by omega⟩ ?_
  refine r_eqi hg1 ?_
  refine r_istore7 X dX6_nearest_25 ?_
  refine r_aload0 X dX6_nearest_27 ?_
  refine r_get X 9 dX6_nearest_28 z_c80 in_X6 tw_567 (by decide) rfl rfl (by decide) ?_
  refine r_bipush X dX6_nearest_31 (by decide +kernel) ?_
  refine r_iload1 X dX6_nearest_33 ?_
  refine r_iconst X dX6_nearest_34 ?_
  refine r_isub X dX6_nearest_35 ?_
  refine r_imul X dX6_nearest_36 ?_
  refine r_iload4 X dX6_nearest_37 ?_
  refine r_iadd X dX6_nearest_39 ?_
  refine r_iald X dX6_nearest_40 z_c88 (by decide) ⟨by omega, by omega⟩ ?_
  refine r_eqi hg2 ?_
  refine r_istore8 X dX6_nearest_41 ?_
  refine r_aload0 X dX6_nearest_43 ?_
  refine r_iload1 X dX6_nearest_44 ?_
  refine r_iconst X dX6_nearest_45 ?_
  refine r_isub X dX6_nearest_46 ?_
  refine r_iload7 X dX6_nearest_47 ?_
  refine r_callVi (n := 2) X (c_X6_x l X.2.2.1 _ _ _ ⟨by omega, by omega⟩ ⟨by omega, by omega⟩ V hM) dX6_nearest_49 tw_735 tw_737 tw_29 tw_46 tw_738 z_c80 (by decide) rfl rfl (Nat.le_of_ble_eq_true rfl) ⟨by decide, by decide⟩ (by decide +kernel) rfl ?_
  refine r_aload0 X dX6_nearest_52 ?_
  refine r_iload1 X dX6_nearest_53 ?_
  refine r_iconst X dX6_nearest_54 ?_
  refine r_isub X dX6_nearest_55 ?_
  refine r_iload8 X dX6_nearest_56 ?_
  refine r_callVi (n := 2) X (c_X6_x l X.2.2.1 _ _ _ ⟨by omega, by omega⟩ ⟨by omega, by omega⟩ V hM) dX6_nearest_58 tw_735 tw_737 tw_29 tw_46 tw_738 z_c80 (by decide) rfl rfl (Nat.le_of_ble_eq_true rfl) ⟨by decide, by decide⟩ (by decide +kernel) rfl ?_
  refine r_isub X dX6_nearest_61 ?_
  refine r_istore9 X dX6_nearest_62 ?_
  refine r_aload0 X dX6_nearest_64 ?_
  refine r_iload1 X dX6_nearest_65 ?_
  refine r_iconst X dX6_nearest_66 ?_
  refine r_isub X dX6_nearest_67 ?_
  refine r_iload7 X dX6_nearest_68 ?_
  refine r_callVi (n := 2) X (c_X6_y l X.2.2.1 _ _ _ ⟨by omega, by omega⟩ ⟨by omega, by omega⟩ V hM) dX6_nearest_70 tw_742 tw_744 tw_30 tw_46 tw_745 z_c80 (by decide) rfl rfl (Nat.le_of_ble_eq_true rfl) ⟨by decide, by decide⟩ (by decide +kernel) rfl ?_
  refine r_aload0 X dX6_nearest_73 ?_
  refine r_iload1 X dX6_nearest_74 ?_
  refine r_iconst X dX6_nearest_75 ?_
  refine r_isub X dX6_nearest_76 ?_
  refine r_iload8 X dX6_nearest_77 ?_
  refine r_callVi (n := 2) X (c_X6_y l X.2.2.1 _ _ _ ⟨by omega, by omega⟩ ⟨by omega, by omega⟩ V hM) dX6_nearest_79 tw_742 tw_744 tw_30 tw_46 tw_745 z_c80 (by decide) rfl rfl (Nat.le_of_ble_eq_true rfl) ⟨by decide, by decide⟩ (by decide +kernel) rfl ?_
  refine r_isub X dX6_nearest_82 ?_
  refine r_istore10 X dX6_nearest_83 ?_
  refine r_aload0 X dX6_nearest_85 ?_
  refine r_iload1 X dX6_nearest_86 ?_
  refine r_iload3 X dX6_nearest_87 ?_
  refine r_callVi (n := 2) X (c_X6_x l X.2.2.1 _ _ _ ⟨by omega, by omega⟩ ⟨by omega, by omega⟩ V hM) dX6_nearest_88 tw_735 tw_737 tw_29 tw_46 tw_738 z_c80 (by decide) rfl rfl (Nat.le_of_ble_eq_true rfl) ⟨by decide, by decide⟩ (by decide +kernel) rfl ?_
  refine r_aload0 X dX6_nearest_91 ?_
  refine r_iload1 X dX6_nearest_92 ?_
  refine r_iload5 X dX6_nearest_93 ?_
  refine r_callVi (n := 2) X (c_X6_x l X.2.2.1 _ _ _ ⟨by omega, by omega⟩ ⟨by omega, by omega⟩ V hM) dX6_nearest_95 tw_735 tw_737 tw_29 tw_46 tw_738 z_c80 (by decide) rfl rfl (Nat.le_of_ble_eq_true rfl) ⟨by decide, by decide⟩ (by decide +kernel) rfl ?_
  refine r_isub X dX6_nearest_98 ?_
  refine r_istore11 X dX6_nearest_99 ?_
  refine r_aload0 X dX6_nearest_101 ?_
  refine r_iload1 X dX6_nearest_102 ?_
  refine r_iload3 X dX6_nearest_103 ?_
  refine r_callVi (n := 2) X (c_X6_y l X.2.2.1 _ _ _ ⟨by omega, by omega⟩ ⟨by omega, by omega⟩ V hM) dX6_nearest_104 tw_742 tw_744 tw_30 tw_46 tw_745 z_c80 (by decide) rfl rfl (Nat.le_of_ble_eq_true rfl) ⟨by decide, by decide⟩ (by decide +kernel) rfl ?_
  refine r_aload0 X dX6_nearest_107 ?_
  refine r_iload1 X dX6_nearest_108 ?_
  refine r_iload5 X dX6_nearest_109 ?_
  refine r_callVi (n := 2) X (c_X6_y l X.2.2.1 _ _ _ ⟨by omega, by omega⟩ ⟨by omega, by omega⟩ V hM) dX6_nearest_111 tw_742 tw_744 tw_30 tw_46 tw_745 z_c80 (by decide) rfl rfl (Nat.le_of_ble_eq_true rfl) ⟨by decide, by decide⟩ (by decide +kernel) rfl ?_
  refine r_isub X dX6_nearest_114 ?_
  refine r_istore12 X dX6_nearest_115 ?_
  refine r_ldc X dX6_nearest_117 1000000 (by decide +kernel) tw_757 ?_
  refine r_istore13 X dX6_nearest_119 ?_
  refine r_iconst X dX6_nearest_121 ?_
  refine r_istore14 X dX6_nearest_122 ?_
  have LP : ∀ (fu : Nat) (t L0 : Int) (o15 : Option Value), ((2 * vc V k) - t) < (fu : Int) → 1 ≤ t → t ≤ (2 * vc V k) → L0 = nr (2 * vc V k) (vx V (k - 1) f1 - vx V (k - 1) f2) (vy V (k - 1) f1 - vy V (k - 1) f2) (vx V k d1 - vx V k d2) (vy V k d1 - vy V k d2) 1000000 (t - 1).toNat → 0 ≤ L0 ∧ L0 ≤ 1000000 → z_G p l e (z_rm 1) s mm ([.ref (a 80), .int (zI k), .int (zI m1), .int (zI d1), .int (zI m2), .int (zI d2)] : List Value).toArray below meth c 16 D κ a A 0 0 (MQ below (z_Qi D κ a A (vnear V k f1 d1 f2 d2) (σ)) ([.ref (a 80), .int (zI k), .int (zI m1), .int (zI d1), .int (zI m2), .int (zI d2)] : List Value).toArray s 0 0 A) σ [some (.ref (a 80)), some (.int (zI k)), some (.int (zI m1)), some (.int (zI d1)), some (.int (zI m2)), some (.int (zI d2)), some (.int (zI (2 * vc V k))), some (.int (zI f1)), some (.int (zI f2)), some (.int (zI (vx V (k - 1) f1 - vx V (k - 1) f2))), some (.int (zI (vy V (k - 1) f1 - vy V (k - 1) f2))), some (.int (zI (vx V k d1 - vx V k d2))), some (.int (zI (vy V k d1 - vy V k d2))), some (.int (zI L0)), some (.int (zI t)), o15] 124 [] := by
    intro fu
    induction fu with
    | zero =>
      intro t L0 o15 hn h0 h1 hL hLr
      omega
    | succ fu ihLP =>
      intro t L0 o15 hn h0 h1 hL hLr
      refine r_iload14 X dX6_nearest_124 ?_
      refine r_iload6 X dX6_nearest_126 ?_
      refine r_icmp_ge (tgt := 192) X dX6_nearest_128 ⟨⟨by omega, by omega⟩, by omega, by omega⟩ (fun h128 => ?_) (fun h128 => ?_)
      · refine r_iload13 X dX6_nearest_192 ?_
        exact r_iret X M dX6_nearest_194 (by rw [hL]; unfold vnear; congr 1; omega) rfl
      · have nb := nval_in (h := (2 * vc V k)) (fx := (vx V (k - 1) f1 - vx V (k - 1) f2)) (fy := (vy V (k - 1) f1 - vy V (k - 1) f2)) (tx := (vx V k d1 - vx V k d2)) (ty := (vy V k d1 - vy V k d2)) (t := t) (by omega) (by omega) (by omega) (by omega) (by omega) (by omega)
        have e1 := z_abs_in (x := (2 * vc V k) * (vx V (k - 1) f1 - vx V (k - 1) f2) + t * ((vx V k d1 - vx V k d2) - (vx V (k - 1) f1 - vx V (k - 1) f2))) (b := 4000) (by omega)
        have e2 := z_abs_in (x := (2 * vc V k) * (vy V (k - 1) f1 - vy V (k - 1) f2) + t * ((vy V k d1 - vy V k d2) - (vy V (k - 1) f1 - vy V (k - 1) f2))) (b := 4000) (by omega)
        refine r_iload6 X dX6_nearest_131 ?_
        refine r_iload9 X dX6_nearest_133 ?_
        refine r_imul X dX6_nearest_135 ?_
        refine r_iload14 X dX6_nearest_136 ?_
        refine r_iload11 X dX6_nearest_138 ?_
        refine r_iload9 X dX6_nearest_140 ?_
        refine r_isub X dX6_nearest_142 ?_
        refine r_imul X dX6_nearest_143 ?_
        refine r_iadd X dX6_nearest_144 ?_
        refine r_callSi (n := 1) X (c_X6_size l X.2.2.1 _ _ ⟨by omega, by omega⟩) dX6_nearest_145 tw_739 tw_740 tw_46 tw_741 rfl (Nat.le_of_ble_eq_true rfl) ⟨by decide, by decide⟩ (by decide +kernel) rfl ?_
        refine r_iload6 X dX6_nearest_148 ?_
        refine r_iload10 X dX6_nearest_150 ?_
        refine r_imul X dX6_nearest_152 ?_
        refine r_iload14 X dX6_nearest_153 ?_
        refine r_iload12 X dX6_nearest_155 ?_
        refine r_iload10 X dX6_nearest_157 ?_
        refine r_isub X dX6_nearest_159 ?_
        refine r_imul X dX6_nearest_160 ?_
        refine r_iadd X dX6_nearest_161 ?_
        refine r_callSi (n := 1) X (c_X6_size l X.2.2.1 _ _ ⟨by omega, by omega⟩) dX6_nearest_162 tw_739 tw_740 tw_46 tw_741 rfl (Nat.le_of_ble_eq_true rfl) ⟨by decide, by decide⟩ (by decide +kernel) rfl ?_
        refine r_callSi (n := 2) X (c_X6_greater l X.2.2.1 _ _ _ ⟨by omega, by omega⟩ ⟨by omega, by omega⟩) dX6_nearest_165 tw_746 tw_747 tw_46 tw_748 rfl (Nat.le_of_ble_eq_true rfl) ⟨by decide, by decide⟩ (by decide +kernel) rfl ?_
        refine r_eqi (y := nval (2 * vc V k) (vx V (k - 1) f1 - vx V (k - 1) f2) (vy V (k - 1) f1 - vy V (k - 1) f2) (vx V k d1 - vx V k d2) (vy V k d1 - vy V k d2) t) rfl ?_
        refine r_istore15 X dX6_nearest_168 ?_
        refine r_iload15 X dX6_nearest_170 ?_
        refine r_iload13 X dX6_nearest_172 ?_
        refine r_icmp_ge (tgt := 182) X dX6_nearest_174 ⟨⟨by omega, by omega⟩, by omega, by omega⟩ (fun h174 => ?_) (fun h174 => ?_)
        · refine r_iload13 X dX6_nearest_182 ?_
          refine r_istore13 X dX6_nearest_184 ?_
          refine r_iinc14 X dX6_nearest_186 ?_
          refine r_goto (tgt := 124) X dX6_nearest_189 (by decide) ?_
          exact ihLP (t + 1) _ _ (by omega) (by omega) (by omega) (by rw [show (t + 1 - 1).toNat = (t - 1).toNat + 1 by omega]; unfold nr; rw [← hL, show (((t - 1).toNat : Nat) : Int) + 1 = t by omega]; omega) (by omega)
        · refine r_iload15 X dX6_nearest_177 ?_
          refine r_goto (tgt := 184) X dX6_nearest_179 (by decide) ?_
          refine r_istore13 X dX6_nearest_184 ?_
          refine r_iinc14 X dX6_nearest_186 ?_
          refine r_goto (tgt := 124) X dX6_nearest_189 (by decide) ?_
          exact ihLP (t + 1) _ _ (by omega) (by omega) (by omega) (by rw [show (t + 1 - 1).toNat = (t - 1).toNat + 1 by omega]; unfold nr; rw [← hL, show (((t - 1).toNat : Nat) : Int) + 1 = t by omega]; omega) (by omega)
  exact LP 40 1 1000000 none (by omega) (by omega) (by omega) rfl (by omega)

