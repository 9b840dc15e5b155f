def k_pic (κ : Nat → ClassId) (r : Nat → Nat) : va_W := [(r 0, .inr (0, [.ref (r 1), .ref (r 2), .ref (r 3), .int (zI 0), .int (zI 1)])), (r 1, z_eI κ 7 (fun _ => 0)), (r 2, z_eI κ 7 (fun _ => 0)), (r 3, z_eZ κ 7 (fun _ => 0))]
set_option maxRecDepth 100000 in
set_option maxHeartbeats 4000000 in
theorem k_X0_init (l : Launch) {D : va_G} {κ : Nat → ClassId} (h0 : Nat) : z_C l D κ yX0_init cX0_init 1 1 3 21 [.ref h0] [(h0, .inr (0, [.null, .null, .null, .int (zI 0), .int (zI 0)]))] (fun w => ∃ r : Nat → Nat, r 0 = h0 ∧ w = k_pic κ r) := by
  refine z_C_of (cc := cX0_init) (own := RX0) (lv0 := [some (.ref h0)]) (by decide) rfl rfl (Nat.le_of_ble_eq_true rfl) rfl ?_
  intro p e s m below meth c A Y hin M
  refine h_aload0 Y dX0_init_0 ?_
  refine h_obj Y dX0_init_1 tw_70 tw_56 tw_57 ⟨by decide, (Nat.le_of_ble_eq_true rfl)⟩ ?_
  refine h_aload0 Y dX0_init_4 ?_
  refine h_bipush Y dX0_init_5 (by decide +kernel) ?_
  refine h_newI Y 7 dX0_init_7 tw_95 (by decide) (Nat.le_of_ble_eq_true rfl) (Nat.le_of_ble_eq_true rfl) (fun q7 => ?_)
  refine h_putF (ty := (.array .int)) Y 0 dX0_init_9 in_X0 tw_71 tyX0 tyX0_ok nmX0 rfl (by decide) rfl hin rfl (by decide +kernel) rfl rfl (Nat.le_of_ble_eq_true rfl) ?_
  refine h_aload0 Y dX0_init_12 ?_
  refine h_bipush Y dX0_init_13 (by decide +kernel) ?_
  refine h_newI Y 7 dX0_init_15 tw_95 (by decide) (Nat.le_of_ble_eq_true rfl) (Nat.le_of_ble_eq_true rfl) (fun q15 => ?_)
  refine h_putF (ty := (.array .int)) Y 1 dX0_init_17 in_X0 tw_73 tyX0 tyX0_ok nmX0 rfl (by decide) rfl hin rfl (by decide +kernel) rfl rfl (Nat.le_of_ble_eq_true rfl) ?_
  refine h_aload0 Y dX0_init_20 ?_
  refine h_bipush Y dX0_init_21 (by decide +kernel) ?_
  refine h_newZ Y 7 dX0_init_23 tw_96 (by decide) (Nat.le_of_ble_eq_true rfl) (Nat.le_of_ble_eq_true rfl) (fun q23 => ?_)
  refine h_putF (ty := (.array .boolean)) Y 2 dX0_init_25 in_X0 tw_75 tyX0 tyX0_ok nmX0 rfl (by decide) rfl hin rfl (by decide +kernel) rfl rfl (Nat.le_of_ble_eq_true rfl) ?_
  refine h_aload0 Y dX0_init_28 ?_
  refine h_iconst Y dX0_init_29 ?_
  refine h_put (ty := .int) Y 4 dX0_init_30 in_X0 tw_81 tyX0 tyX0_ok nmX0 rfl (by decide) rfl (by decide +kernel) rfl rfl (Nat.le_of_ble_eq_true rfl) ?_
  exact h_vret Y M dX0_init_33 (Nat.le_of_ble_eq_true rfl) (Nat.le_of_ble_eq_true rfl) ⟨fun i => match i with | 0 => h0 | 1 => q7 | 2 => q15 | 3 => q23 | _ => 0, rfl, rfl⟩
def k_show (κ : Nat → ClassId) (r : Nat → Nat) : va_W := [(r 0, .inr (4, [.ref (r 1), .ref (r 2), .int (zI 0), .ref (r 3), .int (zI 0), .int (zI 1), .int (zI 10), .int (zI 20), .int (zI 0)])), (r 1, z_eI κ 6 (fun _ => 0)), (r 2, z_eZ κ 6 (fun _ => 0)), (r 3, .inl (κ 3, 5, .inr (.inr (.inr (.inr (zaR r 4 4 5)))))), (r 4, .inr (0, [.ref (r 5), .ref (r 6), .ref (r 7), .int (zI 0), .int (zI 1)])), (r 5, z_eI κ 7 (fun _ => 0)), (r 6, z_eI κ 7 (fun _ => 0)), (r 7, z_eZ κ 7 (fun _ => 0)), (r 8, .inr (0, [.ref (r 9), .ref (r 10), .ref (r 11), .int (zI 0), .int (zI 1)])), (r 9, z_eI κ 7 (fun _ => 0)), (r 10, z_eI κ 7 (fun _ => 0)), (r 11, z_eZ κ 7 (fun _ => 0)), (r 12, .inr (0, [.ref (r 13), .ref (r 14), .ref (r 15), .int (zI 0), .int (zI 1)])), (r 13, z_eI κ 7 (fun _ => 0)), (r 14, z_eI κ 7 (fun _ => 0)), (r 15, z_eZ κ 7 (fun _ => 0)), (r 16, .inr (0, [.ref (r 17), .ref (r 18), .ref (r 19), .int (zI 0), .int (zI 1)])), (r 17, z_eI κ 7 (fun _ => 0)), (r 18, z_eI κ 7 (fun _ => 0)), (r 19, z_eZ κ 7 (fun _ => 0)), (r 20, .inr (0, [.ref (r 21), .ref (r 22), .ref (r 23), .int (zI 0), .int (zI 1)])), (r 21, z_eI κ 7 (fun _ => 0)), (r 22, z_eI κ 7 (fun _ => 0)), (r 23, z_eZ κ 7 (fun _ => 0))]
set_option maxRecDepth 100000 in
set_option maxHeartbeats 4000000 in
theorem k_X4_init (l : Launch) {D : va_G} {κ : Nat → ClassId} (h0 : Nat) : z_C l D κ yX4_init cX4_init 2 2 23 147 [.ref h0] [(h0, .inr (4, [.null, .null, .int (zI 0), .null, .int (zI 0), .int (zI 0), .int (zI 0), .int (zI 0), .int (zI 0)]))] (fun w => ∃ r : Nat → Nat, r 0 = h0 ∧ w = k_show κ r) := by
  refine z_C_of (cc := cX4_init) (own := RX4) (lv0 := [some (.ref h0), none]) (by decide) rfl rfl (Nat.le_of_ble_eq_true rfl) rfl ?_
  intro p e s m below meth c A Y hin M
  refine h_aload0 Y dX4_init_0 ?_
  refine h_obj Y dX4_init_1 tw_63 tw_56 tw_57 ⟨by decide, (Nat.le_of_ble_eq_true rfl)⟩ ?_
  refine h_aload0 Y dX4_init_4 ?_
  refine h_bipush Y dX4_init_5 (by decide +kernel) ?_
  refine h_newI Y 6 dX4_init_7 tw_95 (by decide) (Nat.le_of_ble_eq_true rfl) (Nat.le_of_ble_eq_true rfl) (fun q7 => ?_)
  refine h_putF (ty := (.array .int)) Y 0 dX4_init_9 in_X4 tw_97 tyX4 tyX4_ok nmX4 rfl (by decide) rfl hin rfl (by decide +kernel) rfl rfl (Nat.le_of_ble_eq_true rfl) ?_
  refine h_aload0 Y dX4_init_12 ?_
  refine h_bipush Y dX4_init_13 (by decide +kernel) ?_
  refine h_newZ Y 6 dX4_init_15 tw_96 (by decide) (Nat.le_of_ble_eq_true rfl) (Nat.le_of_ble_eq_true rfl) (fun q15 => ?_)
  refine h_putF (ty := (.array .boolean)) Y 1 dX4_init_17 in_X4 tw_100 tyX4 tyX4_ok nmX4 rfl (by decide) rfl hin rfl (by decide +kernel) rfl rfl (Nat.le_of_ble_eq_true rfl) ?_
  refine h_aload0 Y dX4_init_20 ?_
  refine h_iconst Y dX4_init_21 ?_
  refine h_newP Y 5 dX4_init_22 tw_64 (by decide) (Nat.le_of_ble_eq_true rfl) (Nat.le_of_ble_eq_true rfl) (fun q22 => ?_)
  refine h_putF (ty := (.array (.object "DotsOnGrass$Picture"))) Y 3 dX4_init_25 in_X4 tw_106 tyX4 tyX4_ok nmX4 rfl (by decide) rfl hin rfl (by decide +kernel) rfl rfl (Nat.le_of_ble_eq_true rfl) ?_
  refine h_aload0 Y dX4_init_28 ?_
  refine h_iconst Y dX4_init_29 ?_
  refine h_put (ty := .int) Y 5 dX4_init_30 in_X4 tw_113 tyX4 tyX4_ok nmX4 rfl (by decide) rfl (by decide +kernel) rfl rfl (Nat.le_of_ble_eq_true rfl) ?_
  refine h_aload0 Y dX4_init_33 ?_
  refine h_bipush Y dX4_init_34 (by decide +kernel) ?_
  refine h_put (ty := .int) Y 6 dX4_init_36 in_X4 tw_116 tyX4 tyX4_ok nmX4 rfl (by decide) rfl (by decide +kernel) rfl rfl (Nat.le_of_ble_eq_true rfl) ?_
  refine h_aload0 Y dX4_init_39 ?_
  refine h_bipush Y dX4_init_40 (by decide +kernel) ?_
  refine h_put (ty := .int) Y 7 dX4_init_42 in_X4 tw_118 tyX4 tyX4_ok nmX4 rfl (by decide) rfl (by decide +kernel) rfl rfl (Nat.le_of_ble_eq_true rfl) ?_
  refine h_iconst Y dX4_init_45 ?_
  refine h_istore1 Y dX4_init_46 (by decide) rfl ?_
  refine h_iload1 Y dX4_init_47 ?_
  refine h_iconst Y dX4_init_48 ?_
  refine h_ge_n (tgt := 71) Y dX4_init_49 (by decide) ⟨by omega, by omega⟩ (by decide) ?_
  refine h_aload0 Y dX4_init_52 ?_
  refine h_get Y 3 dX4_init_53 in_X4 tw_106 rfl (by decide) rfl ?_
  refine h_iload1 Y dX4_init_56 ?_
  refine h_new (ci := 0) (C := RX0) (T := TX0) (N := 5) Y [.null, .null, .null, .int (zI 0), .int (zI 0)] dX4_init_57 in_X0 tyX0 tyX0_ok tw_64 tw_66 tw_42 rfl (fun j hj => by rcases (show j = 0 ∨ j = 1 ∨ j = 2 ∨ j = 3 ∨ j = 4 by omega) with rfl | rfl | rfl | rfl | rfl <;> rfl) (Nat.le_of_ble_eq_true rfl) (Nat.le_of_ble_eq_true rfl) (fun q57 => ?_)
  refine h_dup Y dX4_init_60 rfl ?_
  refine h_initN (n := 0) Y (k_X0_init l q57) dX4_init_61 tw_69 Y.2.1.2.1.1 tw_68 tw_42 rfl rfl (Nat.le_of_ble_eq_true rfl) ⟨by decide, (Nat.le_of_ble_eq_true rfl)⟩ (by decide +kernel) rfl ⟨(Nat.le_of_ble_eq_true rfl), (Nat.le_of_ble_eq_true rfl)⟩ (fun w61 h61 => ?_)
  obtain ⟨r61, e61, rfl⟩ := h61
  subst e61
  refine h_astP Y 0 4 dX4_init_64 rfl (by decide) (by decide) ?_
  refine h_iinc1 (y := 1) Y dX4_init_65 (by decide) (by decide) rfl ?_
  refine h_goto (tgt := 47) Y dX4_init_68 (by decide) ?_
  refine h_iload1 Y dX4_init_47 ?_
  refine h_iconst Y dX4_init_48 ?_
  refine h_ge_n (tgt := 71) Y dX4_init_49 (by decide) ⟨by omega, by omega⟩ (by decide) ?_
  refine h_aload0 Y dX4_init_52 ?_
  refine h_get Y 3 dX4_init_53 in_X4 tw_106 rfl (by decide) rfl ?_
  refine h_iload1 Y dX4_init_56 ?_
  refine h_new (ci := 0) (C := RX0) (T := TX0) (N := 5) Y [.null, .null, .null, .int (zI 0), .int (zI 0)] dX4_init_57 in_X0 tyX0 tyX0_ok tw_64 tw_66 tw_42 rfl (fun j hj => by rcases (show j = 0 ∨ j = 1 ∨ j = 2 ∨ j = 3 ∨ j = 4 by omega) with rfl | rfl | rfl | rfl | rfl <;> rfl) (Nat.le_of_ble_eq_true rfl) (Nat.le_of_ble_eq_true rfl) (fun q57_2 => ?_)
  refine h_dup Y dX4_init_60 rfl ?_
  refine h_initN (n := 0) Y (k_X0_init l q57_2) dX4_init_61 tw_69 Y.2.1.2.1.1 tw_68 tw_42 rfl rfl (Nat.le_of_ble_eq_true rfl) ⟨by decide, (Nat.le_of_ble_eq_true rfl)⟩ (by decide +kernel) rfl ⟨(Nat.le_of_ble_eq_true rfl), (Nat.le_of_ble_eq_true rfl)⟩ (fun w61_2 h61_2 => ?_)
  obtain ⟨r61_2, e61_2, rfl⟩ := h61_2
  subst e61_2
  refine h_astP Y 1 8 dX4_init_64 rfl (by decide) (by decide) ?_
  refine h_iinc1 (y := 2) Y dX4_init_65 (by decide) (by decide) rfl ?_
  refine h_goto (tgt := 47) Y dX4_init_68 (by decide) ?_
  refine h_iload1 Y dX4_init_47 ?_
  refine h_iconst Y dX4_init_48 ?_
  refine h_ge_n (tgt := 71) Y dX4_init_49 (by decide) ⟨by omega, by omega⟩ (by decide) ?_
  refine h_aload0 Y dX4_init_52 ?_
  refine h_get Y 3 dX4_init_53 in_X4 tw_106 rfl (by decide) rfl ?_
  refine h_iload1 Y dX4_init_56 ?_
  refine h_new (ci := 0) (C := RX0) (T := TX0) (N := 5) Y [.null, .null, .null, .int (zI 0), .int (zI 0)] dX4_init_57 in_X0 tyX0 tyX0_ok tw_64 tw_66 tw_42 rfl (fun j hj => by rcases (show j = 0 ∨ j = 1 ∨ j = 2 ∨ j = 3 ∨ j = 4 by omega) with rfl | rfl | rfl | rfl | rfl <;> rfl) (Nat.le_of_ble_eq_true rfl) (Nat.le_of_ble_eq_true rfl) (fun q57_3 => ?_)
  refine h_dup Y dX4_init_60 rfl ?_
  refine h_initN (n := 0) Y (k_X0_init l q57_3) dX4_init_61 tw_69 Y.2.1.2.1.1 tw_68 tw_42 rfl rfl (Nat.le_of_ble_eq_true rfl) ⟨by decide, (Nat.le_of_ble_eq_true rfl)⟩ (by decide +kernel) rfl ⟨(Nat.le_of_ble_eq_true rfl), (Nat.le_of_ble_eq_true rfl)⟩ (fun w61_3 h61_3 => ?_)
  obtain ⟨r61_3, e61_3, rfl⟩ := h61_3
  subst e61_3
  refine h_astP Y 2 12 dX4_init_64 rfl (by decide) (by decide) ?_
  refine h_iinc1 (y := 3) Y dX4_init_65 (by decide) (by decide) rfl ?_
  refine h_goto (tgt := 47) Y dX4_init_68 (by decide) ?_
  refine h_iload1 Y dX4_init_47 ?_
  refine h_iconst Y dX4_init_48 ?_
  refine h_ge_n (tgt := 71) Y dX4_init_49 (by decide) ⟨by omega, by omega⟩ (by decide) ?_
  refine h_aload0 Y dX4_init_52 ?_
  refine h_get Y 3 dX4_init_53 in_X4 tw_106 rfl (by decide) rfl ?_
  refine h_iload1 Y dX4_init_56 ?_
  refine h_new (ci := 0) (C := RX0) (T := TX0) (N := 5) Y [.null, .null, .null, .int (zI 0), .int (zI 0)] dX4_init_57 in_X0 tyX0 tyX0_ok tw_64 tw_66 tw_42 rfl (fun j hj => by rcases (show j = 0 ∨ j = 1 ∨ j = 2 ∨ j = 3 ∨ j = 4 by omega) with rfl | rfl | rfl | rfl | rfl <;> rfl) (Nat.le_of_ble_eq_true rfl) (Nat.le_of_ble_eq_true rfl) (fun q57_4 => ?_)
  refine h_dup Y dX4_init_60 rfl ?_
  refine h_initN (n := 0) Y (k_X0_init l q57_4) dX4_init_61 tw_69 Y.2.1.2.1.1 tw_68 tw_42 rfl rfl (Nat.le_of_ble_eq_true rfl) ⟨by decide, (Nat.le_of_ble_eq_true rfl)⟩ (by decide +kernel) rfl ⟨(Nat.le_of_ble_eq_true rfl), (Nat.le_of_ble_eq_true rfl)⟩ (fun w61_4 h61_4 => ?_)
  obtain ⟨r61_4, e61_4, rfl⟩ := h61_4
  subst e61_4
  refine h_astP Y 3 16 dX4_init_64 rfl (by decide) (by decide) ?_
  refine h_iinc1 (y := 4) Y dX4_init_65 (by decide) (by decide) rfl ?_
  refine h_goto (tgt := 47) Y dX4_init_68 (by decide) ?_
  refine h_iload1 Y dX4_init_47 ?_
  refine h_iconst Y dX4_init_48 ?_
  refine h_ge_n (tgt := 71) Y dX4_init_49 (by decide) ⟨by omega, by omega⟩ (by decide) ?_
  refine h_aload0 Y dX4_init_52 ?_
  refine h_get Y 3 dX4_init_53 in_X4 tw_106 rfl (by decide) rfl ?_
  refine h_iload1 Y dX4_init_56 ?_
  refine h_new (ci := 0) (C := RX0) (T := TX0) (N := 5) Y [.null, .null, .null, .int (zI 0), .int (zI 0)] dX4_init_57 in_X0 tyX0 tyX0_ok tw_64 tw_66 tw_42 rfl (fun j hj => by rcases (show j = 0 ∨ j = 1 ∨ j = 2 ∨ j = 3 ∨ j = 4 by omega) with rfl | rfl | rfl | rfl | rfl <;> rfl) (Nat.le_of_ble_eq_true rfl) (Nat.le_of_ble_eq_true rfl) (fun q57_5 => ?_)
  refine h_dup Y dX4_init_60 rfl ?_
  refine h_initN (n := 0) Y (k_X0_init l q57_5) dX4_init_61 tw_69 Y.2.1.2.1.1 tw_68 tw_42 rfl rfl (Nat.le_of_ble_eq_true rfl) ⟨by decide, (Nat.le_of_ble_eq_true rfl)⟩ (by decide +kernel) rfl ⟨(Nat.le_of_ble_eq_true rfl), (Nat.le_of_ble_eq_true rfl)⟩ (fun w61_5 h61_5 => ?_)
  obtain ⟨r61_5, e61_5, rfl⟩ := h61_5
  subst e61_5
  refine h_astP Y 4 20 dX4_init_64 rfl (by decide) (by decide) ?_
  refine h_iinc1 (y := 5) Y dX4_init_65 (by decide) (by decide) rfl ?_
  refine h_goto (tgt := 47) Y dX4_init_68 (by decide) ?_
  refine h_iload1 Y dX4_init_47 ?_
  refine h_iconst Y dX4_init_48 ?_
  refine h_ge_t (tgt := 71) Y dX4_init_49 (by decide) ⟨by omega, by omega⟩ (by decide) ?_
  have hz : (va_up (va_up (va_up (va_up (va_up (fun _ => none) 0 (some (r61 0))) 1 (some (r61_2 0))) 2 (some (r61_3 0))) 3 (some (r61_4 0))) 4 (some (r61_5 0))) = zaR (fun i => match i with | 0 => h0 | 1 => q7 | 2 => q15 | 3 => q22 | 4 => r61 0 | 5 => r61 1 | 6 => r61 2 | 7 => r61 3 | 8 => r61_2 0 | 9 => r61_2 1 | 10 => r61_2 2 | 11 => r61_2 3 | 12 => r61_3 0 | 13 => r61_3 1 | 14 => r61_3 2 | 15 => r61_3 3 | 16 => r61_4 0 | 17 => r61_4 1 | 18 => r61_4 2 | 19 => r61_4 3 | 20 => r61_5 0 | 21 => r61_5 1 | 22 => r61_5 2 | 23 => r61_5 3 | _ => 0) 4 4 5 := by
    funext i
    match i with
    | 0 => rfl
    | 1 => rfl
    | 2 => rfl
    | 3 => rfl
    | 4 => rfl
    | n + 5 => simp [va_up, zaR]
  exact h_vret Y M dX4_init_71 (Nat.le_of_ble_eq_true rfl) (Nat.le_of_ble_eq_true rfl) ⟨fun i => match i with | 0 => h0 | 1 => q7 | 2 => q15 | 3 => q22 | 4 => r61 0 | 5 => r61 1 | 6 => r61 2 | 7 => r61 3 | 8 => r61_2 0 | 9 => r61_2 1 | 10 => r61_2 2 | 11 => r61_2 3 | 12 => r61_3 0 | 13 => r61_3 1 | 14 => r61_3 2 | 15 => r61_3 3 | 16 => r61_4 0 | 17 => r61_4 1 | 18 => r61_4 2 | 19 => r61_4 3 | 20 => r61_5 0 | 21 => r61_5 1 | 22 => r61_5 2 | 23 => r61_5 3 | _ => 0, rfl, by
    unfold k_show
    rw [← hz]
    rfl⟩
def k_plan (κ : Nat → ClassId) (r : Nat → Nat) (sr : Nat) : va_W := [(r 0, .inr (1, [.ref (r 1), .ref (r 2), .ref (r 3), .ref (r 4), .ref sr, .int (zI 0)])), (r 1, z_eZ κ 5 (fun _ => 0)), (r 2, z_eI κ 5 (fun _ => 0)), (r 3, z_eI κ 5 (fun _ => 0)), (r 4, .inl (κ 4, 5, .inr (.inr (.inr (.inr (zaR r 5 1 5)))))), (r 5, z_eI κ 6 (fun _ => 0)), (r 6, z_eI κ 6 (fun _ => 0)), (r 7, z_eI κ 6 (fun _ => 0)), (r 8, z_eI κ 6 (fun _ => 0)), (r 9, z_eI κ 6 (fun _ => 0))]
set_option maxRecDepth 100000 in
set_option maxHeartbeats 4000000 in
theorem k_X1_init (l : Launch) {D : va_G} {κ : Nat → ClassId} (h0 sr : Nat) : z_C l D κ yX1_init cX1_init 2 1 9 50 [.ref h0, .ref sr] [(h0, .inr (1, [.null, .null, .null, .null, .null, .int (zI 0)]))] (fun w => ∃ r : Nat → Nat, r 0 = h0 ∧ w = k_plan κ r sr) := by
  refine z_C_of (cc := cX1_init) (own := RX1) (lv0 := [some (.ref h0), some (.ref sr)]) (by decide) rfl rfl (Nat.le_of_ble_eq_true rfl) rfl ?_
  intro p e s m below meth c A Y hin M
  refine h_aload0 Y dX1_init_0 ?_
  refine h_obj Y dX1_init_1 tw_211 tw_56 tw_57 ⟨by decide, (Nat.le_of_ble_eq_true rfl)⟩ ?_
  refine h_aload0 Y dX1_init_4 ?_
  refine h_iconst Y dX1_init_5 ?_
  refine h_newZ Y 5 dX1_init_6 tw_96 (by decide) (Nat.le_of_ble_eq_true rfl) (Nat.le_of_ble_eq_true rfl) (fun q6 => ?_)
  refine h_putF (ty := (.array .boolean)) Y 0 dX1_init_8 in_X1 tw_214 tyX1 tyX1_ok nmX1 rfl (by decide) rfl hin rfl (by decide +kernel) rfl rfl (Nat.le_of_ble_eq_true rfl) ?_
  refine h_aload0 Y dX1_init_11 ?_
  refine h_iconst Y dX1_init_12 ?_
  refine h_newI Y 5 dX1_init_13 tw_95 (by decide) (Nat.le_of_ble_eq_true rfl) (Nat.le_of_ble_eq_true rfl) (fun q13 => ?_)
  refine h_putF (ty := (.array .int)) Y 1 dX1_init_15 in_X1 tw_216 tyX1 tyX1_ok nmX1 rfl (by decide) rfl hin rfl (by decide +kernel) rfl rfl (Nat.le_of_ble_eq_true rfl) ?_
  refine h_aload0 Y dX1_init_18 ?_
  refine h_iconst Y dX1_init_19 ?_
  refine h_newI Y 5 dX1_init_20 tw_95 (by decide) (Nat.le_of_ble_eq_true rfl) (Nat.le_of_ble_eq_true rfl) (fun q20 => ?_)
  refine h_putF (ty := (.array .int)) Y 2 dX1_init_22 in_X1 tw_218 tyX1 tyX1_ok nmX1 rfl (by decide) rfl hin rfl (by decide +kernel) rfl rfl (Nat.le_of_ble_eq_true rfl) ?_
  refine h_aload0 Y dX1_init_25 ?_
  refine h_iconst Y dX1_init_26 ?_
  refine h_bipush Y dX1_init_27 (by decide +kernel) ?_
  refine h_mna Y dX1_init_29 tw_212 tw_95 (Nat.le_of_ble_eq_true rfl) (Nat.le_of_ble_eq_true rfl) (fun q29 r29 => ?_)
  refine h_putF (ty := (.array (.array .int))) Y 3 dX1_init_33 in_X1 tw_220 tyX1 tyX1_ok nmX1 rfl (by decide) rfl hin rfl (by decide +kernel) rfl rfl (Nat.le_of_ble_eq_true rfl) ?_
  refine h_aload0 Y dX1_init_36 ?_
  refine h_aload1 Y dX1_init_37 ?_
  refine h_putF (ty := (.object "DotsOnGrass$Search")) Y 4 dX1_init_38 in_X1 tw_221 tyX1 tyX1_ok nmX1 rfl (by decide) rfl hin rfl (by decide +kernel) rfl rfl (Nat.le_of_ble_eq_true rfl) ?_
  have hz : (fun i => if i < 5 then some (r29 i) else none) = zaR (fun i => match i with | 0 => h0 | 1 => q6 | 2 => q13 | 3 => q20 | 4 => q29 | 5 => r29 0 | 6 => r29 1 | 7 => r29 2 | 8 => r29 3 | 9 => r29 4 | _ => 0) 5 1 5 := by
    funext i
    match i with
    | 0 => rfl
    | 1 => rfl
    | 2 => rfl
    | 3 => rfl
    | 4 => rfl
    | n + 5 =>
      unfold zaR
      rw [if_neg (by omega), if_neg (by omega)]
  exact h_vret Y M dX1_init_41 (Nat.le_of_ble_eq_true rfl) (Nat.le_of_ble_eq_true rfl) ⟨fun i => match i with | 0 => h0 | 1 => q6 | 2 => q13 | 3 => q20 | 4 => q29 | 5 => r29 0 | 6 => r29 1 | 7 => r29 2 | 8 => r29 3 | 9 => r29 4 | _ => 0, rfl, by
    unfold k_plan
    rw [← hz]
    rfl⟩
def k_search (κ : Nat → ClassId) (r : Nat → Nat) : va_W := [(r 0, .inr (2, [.int (zI 0), .int (zI 0), .int (zI 0), .ref (r 1), .ref (r 2), .int (zI 0), .ref (r 3), .ref (r 4), .ref (r 5), .ref (r 6), .ref (r 7), .int (zI 0)])), (r 1, z_eI κ 6 (fun _ => 0)), (r 2, z_eI κ 6 (fun _ => 0)), (r 3, z_eI κ 6 (fun _ => 0)), (r 4, z_eI κ 6 (fun _ => 0)), (r 5, z_eI κ 6 (fun _ => 0)), (r 6, z_eI κ 42 (fun _ => 0)), (r 7, z_eI κ 1764 (fun _ => 0))]
set_option maxRecDepth 100000 in
set_option maxHeartbeats 4000000 in
theorem k_X2_init (l : Launch) {D : va_G} {κ : Nat → ClassId} (h0 : Nat) : z_C l D κ yX2_init cX2_init 1 1 7 1836 [.ref h0] [(h0, .inr (2, [.int (zI 0), .int (zI 0), .int (zI 0), .null, .null, .int (zI 0), .null, .null, .null, .null, .null, .int (zI 0)]))] (fun w => ∃ r : Nat → Nat, r 0 = h0 ∧ w = k_search κ r) := by
  refine z_C_of (cc := cX2_init) (own := RX2) (lv0 := [some (.ref h0)]) (by decide) rfl rfl (Nat.le_of_ble_eq_true rfl) rfl ?_
  intro p e s m below meth c A Y hin M
  refine h_aload0 Y dX2_init_0 ?_
  refine h_obj Y dX2_init_1 tw_165 tw_56 tw_57 ⟨by decide, (Nat.le_of_ble_eq_true rfl)⟩ ?_
  refine h_aload0 Y dX2_init_4 ?_
  refine h_bipush Y dX2_init_5 (by decide +kernel) ?_
  refine h_newI Y 6 dX2_init_7 tw_95 (by decide) (Nat.le_of_ble_eq_true rfl) (Nat.le_of_ble_eq_true rfl) (fun q7 => ?_)
  refine h_putF (ty := (.array .int)) Y 3 dX2_init_9 in_X2 tw_172 tyX2 tyX2_ok nmX2 rfl (by decide) rfl hin rfl (by decide +kernel) rfl rfl (Nat.le_of_ble_eq_true rfl) ?_
  refine h_aload0 Y dX2_init_12 ?_
  refine h_bipush Y dX2_init_13 (by decide +kernel) ?_
  refine h_newI Y 6 dX2_init_15 tw_95 (by decide) (Nat.le_of_ble_eq_true rfl) (Nat.le_of_ble_eq_true rfl) (fun q15 => ?_)
  refine h_putF (ty := (.array .int)) Y 4 dX2_init_17 in_X2 tw_173 tyX2 tyX2_ok nmX2 rfl (by decide) rfl hin rfl (by decide +kernel) rfl rfl (Nat.le_of_ble_eq_true rfl) ?_
  refine h_aload0 Y dX2_init_20 ?_
  refine h_bipush Y dX2_init_21 (by decide +kernel) ?_
  refine h_newI Y 6 dX2_init_23 tw_95 (by decide) (Nat.le_of_ble_eq_true rfl) (Nat.le_of_ble_eq_true rfl) (fun q23 => ?_)
  refine h_putF (ty := (.array .int)) Y 6 dX2_init_25 in_X2 tw_175 tyX2 tyX2_ok nmX2 rfl (by decide) rfl hin rfl (by decide +kernel) rfl rfl (Nat.le_of_ble_eq_true rfl) ?_
  refine h_aload0 Y dX2_init_28 ?_
  refine h_bipush Y dX2_init_29 (by decide +kernel) ?_
  refine h_newI Y 6 dX2_init_31 tw_95 (by decide) (Nat.le_of_ble_eq_true rfl) (Nat.le_of_ble_eq_true rfl) (fun q31 => ?_)
  refine h_putF (ty := (.array .int)) Y 7 dX2_init_33 in_X2 tw_176 tyX2 tyX2_ok nmX2 rfl (by decide) rfl hin rfl (by decide +kernel) rfl rfl (Nat.le_of_ble_eq_true rfl) ?_
  refine h_aload0 Y dX2_init_36 ?_
  refine h_bipush Y dX2_init_37 (by decide +kernel) ?_
  refine h_newI Y 6 dX2_init_39 tw_95 (by decide) (Nat.le_of_ble_eq_true rfl) (Nat.le_of_ble_eq_true rfl) (fun q39 => ?_)
  refine h_putF (ty := (.array .int)) Y 8 dX2_init_41 in_X2 tw_177 tyX2 tyX2_ok nmX2 rfl (by decide) rfl hin rfl (by decide +kernel) rfl rfl (Nat.le_of_ble_eq_true rfl) ?_
  refine h_aload0 Y dX2_init_44 ?_
  refine h_bipush Y dX2_init_45 (by decide +kernel) ?_
  refine h_newI Y 42 dX2_init_47 tw_95 (by decide) (Nat.le_of_ble_eq_true rfl) (Nat.le_of_ble_eq_true rfl) (fun q47 => ?_)
  refine h_putF (ty := (.array .int)) Y 9 dX2_init_49 in_X2 tw_178 tyX2 tyX2_ok nmX2 rfl (by decide) rfl hin rfl (by decide +kernel) rfl rfl (Nat.le_of_ble_eq_true rfl) ?_
  refine h_aload0 Y dX2_init_52 ?_
  refine h_sipush Y dX2_init_53 (by decide +kernel) ?_
  refine h_newI Y 1764 dX2_init_56 tw_95 (by decide) (Nat.le_of_ble_eq_true rfl) (Nat.le_of_ble_eq_true rfl) (fun q56 => ?_)
  refine h_putF (ty := (.array .int)) Y 10 dX2_init_58 in_X2 tw_179 tyX2 tyX2_ok nmX2 rfl (by decide) rfl hin rfl (by decide +kernel) rfl rfl (Nat.le_of_ble_eq_true rfl) ?_
  exact h_vret Y M dX2_init_61 (Nat.le_of_ble_eq_true rfl) (Nat.le_of_ble_eq_true rfl) ⟨fun i => match i with | 0 => h0 | 1 => q7 | 2 => q15 | 3 => q23 | 4 => q31 | 5 => q39 | 6 => q47 | 7 => q56 | _ => 0, rfl, rfl⟩
def k_shape (κ : Nat → ClassId) (r : Nat → Nat) : va_W := [(r 0, .inr (3, [.ref (r 1), .ref (r 2), .int (zI 0)])), (r 1, z_eI κ 7 (fun _ => 0)), (r 2, z_eI κ 7 (fun _ => 0))]
set_option maxRecDepth 100000 in
set_option maxHeartbeats 4000000 in
theorem k_X3_init (l : Launch) {D : va_G} {κ : Nat → ClassId} (h0 : Nat) : z_C l D κ yX3_init cX3_init 1 1 2 14 [.ref h0] [(h0, .inr (3, [.null, .null, .int (zI 0)]))] (fun w => ∃ r : Nat → Nat, r 0 = h0 ∧ w = k_shape κ r) := by
  refine z_C_of (cc := cX3_init) (own := RX3) (lv0 := [some (.ref h0)]) (by decide) rfl rfl (Nat.le_of_ble_eq_true rfl) rfl ?_
  intro p e s m below meth c A Y hin M
  refine h_aload0 Y dX3_init_0 ?_
  refine h_obj Y dX3_init_1 tw_146 tw_56 tw_57 ⟨by decide, (Nat.le_of_ble_eq_true rfl)⟩ ?_
  refine h_aload0 Y dX3_init_4 ?_
  refine h_bipush Y dX3_init_5 (by decide +kernel) ?_
  refine h_newI Y 7 dX3_init_7 tw_95 (by decide) (Nat.le_of_ble_eq_true rfl) (Nat.le_of_ble_eq_true rfl) (fun q7 => ?_)
  refine h_putF (ty := (.array .int)) Y 0 dX3_init_9 in_X3 tw_147 tyX3 tyX3_ok nmX3 rfl (by decide) rfl hin rfl (by decide +kernel) rfl rfl (Nat.le_of_ble_eq_true rfl) ?_
  refine h_aload0 Y dX3_init_12 ?_
  refine h_bipush Y dX3_init_13 (by decide +kernel) ?_
  refine h_newI Y 7 dX3_init_15 tw_95 (by decide) (Nat.le_of_ble_eq_true rfl) (Nat.le_of_ble_eq_true rfl) (fun q15 => ?_)
  refine h_putF (ty := (.array .int)) Y 1 dX3_init_17 in_X3 tw_149 tyX3 tyX3_ok nmX3 rfl (by decide) rfl hin rfl (by decide +kernel) rfl rfl (Nat.le_of_ble_eq_true rfl) ?_
  exact h_vret Y M dX3_init_20 (Nat.le_of_ble_eq_true rfl) (Nat.le_of_ble_eq_true rfl) ⟨fun i => match i with | 0 => h0 | 1 => q7 | 2 => q15 | _ => 0, rfl, rfl⟩
def k_num : Int → Int := (z_upf (z_upf (z_upf (z_upf (z_upf (z_upf (fun _ => 0) 0 0) 1 0) 2 1) 3 10) 4 20) 5 0)
def k_model (κ : Nat → ClassId) (r : Nat → Nat) : va_W := [(r 0, .inr (6, [.ref (r 1), .ref (r 2), .ref (r 3), .ref (r 4), .int (zI 0), .ref (r 5), .ref (r 6), .ref (r 7), .int (zI 0), .ref (r 8), .ref (r 9), .ref (r 10), .ref (r 11), .ref (r 12), .ref (r 13), .ref (r 14), .ref (r 15), .int (zI 0)])), (r 1, z_eI κ 6 k_num), (r 2, z_eI κ 12 (fun _ => 0)), (r 3, z_eI κ 10 (fun _ => 0)), (r 4, z_eI κ 105 (fun _ => 0)), (r 5, z_eI κ 133 (fun _ => 0)), (r 6, z_eL κ 16 (fun _ => 0)), (r 7, z_eL κ 16 (fun _ => 0)), (r 8, z_eI κ 30 (fun _ => 0)), (r 9, z_eZ κ 5 (fun _ => 0)), (r 10, z_eI κ 5 (fun _ => 0)), (r 11, z_eI κ 5 (fun _ => 0)), (r 12, z_eI κ 6 (fun _ => 0)), (r 13, z_eI κ 6 (fun _ => 0)), (r 14, z_eI κ 30 (fun _ => 0)), (r 15, z_eZ κ 5 (fun _ => 0))]
set_option maxRecDepth 100000 in
set_option maxHeartbeats 4000000 in
theorem k_X6_init (l : Launch) {D : va_G} {κ : Nat → ClassId} (h0 : Nat) : z_C l D κ yX6_init cX6_init 1 1 15 390 [.ref h0] [(h0, .inr (6, [.null, .null, .null, .null, .int (zI 0), .null, .null, .null, .int (zI 0), .null, .null, .null, .null, .null, .null, .null, .null, .int (zI 0)]))] (fun w => ∃ r : Nat → Nat, r 0 = h0 ∧ w = k_model κ r) := by
  refine z_C_of (cc := cX6_init) (own := RX6) (lv0 := [some (.ref h0)]) (by decide) rfl rfl (Nat.le_of_ble_eq_true rfl) rfl ?_
  intro p e s m below meth c A Y hin M
  refine h_aload0 Y dX6_init_0 ?_
  refine h_obj Y dX6_init_1 tw_557 tw_56 tw_57 ⟨by decide, (Nat.le_of_ble_eq_true rfl)⟩ ?_
  refine h_aload0 Y dX6_init_4 ?_
  refine h_bipush Y dX6_init_5 (by decide +kernel) ?_
  refine h_newI Y 6 dX6_init_7 tw_95 (by decide) (Nat.le_of_ble_eq_true rfl) (Nat.le_of_ble_eq_true rfl) (fun q7 => ?_)
  refine h_dup Y dX6_init_9 rfl ?_
  refine h_iconst Y dX6_init_10 ?_
  refine h_iconst Y dX6_init_11 ?_
  refine h_astI Y _ dX6_init_12 ⟨by decide, by decide⟩ (by decide) ?_
  refine h_dup Y dX6_init_13 rfl ?_
  refine h_iconst Y dX6_init_14 ?_
  refine h_iconst Y dX6_init_15 ?_
  refine h_astI Y _ dX6_init_16 ⟨by decide, by decide⟩ (by decide) ?_
  refine h_dup Y dX6_init_17 rfl ?_
  refine h_iconst Y dX6_init_18 ?_
  refine h_iconst Y dX6_init_19 ?_
  refine h_astI Y _ dX6_init_20 ⟨by decide, by decide⟩ (by decide) ?_
  refine h_dup Y dX6_init_21 rfl ?_
  refine h_iconst Y dX6_init_22 ?_
  refine h_bipush Y dX6_init_23 (by decide +kernel) ?_
  refine h_astI Y _ dX6_init_25 ⟨by decide, by decide⟩ (by decide) ?_
  refine h_dup Y dX6_init_26 rfl ?_
  refine h_iconst Y dX6_init_27 ?_
  refine h_bipush Y dX6_init_28 (by decide +kernel) ?_
  refine h_astI Y _ dX6_init_30 ⟨by decide, by decide⟩ (by decide) ?_
  refine h_dup Y dX6_init_31 rfl ?_
  refine h_iconst Y dX6_init_32 ?_
  refine h_iconst Y dX6_init_33 ?_
  refine h_astI Y _ dX6_init_34 ⟨by decide, by decide⟩ (by decide) ?_
  refine h_putF (ty := (.array .int)) Y 0 dX6_init_35 in_X6 tw_558 tyX6 tyX6_ok nmX6 rfl (by decide) rfl hin rfl (by decide +kernel) rfl rfl (Nat.le_of_ble_eq_true rfl) ?_
  refine h_aload0 Y dX6_init_38 ?_
  refine h_bipush Y dX6_init_39 (by decide +kernel) ?_
  refine h_newI Y 12 dX6_init_41 tw_95 (by decide) (Nat.le_of_ble_eq_true rfl) (Nat.le_of_ble_eq_true rfl) (fun q41 => ?_)
  refine h_putF (ty := (.array .int)) Y 1 dX6_init_43 in_X6 tw_559 tyX6 tyX6_ok nmX6 rfl (by decide) rfl hin rfl (by decide +kernel) rfl rfl (Nat.le_of_ble_eq_true rfl) ?_
  refine h_aload0 Y dX6_init_46 ?_
  refine h_bipush Y dX6_init_47 (by decide +kernel) ?_
  refine h_newI Y 10 dX6_init_49 tw_95 (by decide) (Nat.le_of_ble_eq_true rfl) (Nat.le_of_ble_eq_true rfl) (fun q49 => ?_)
  refine h_putF (ty := (.array .int)) Y 2 dX6_init_51 in_X6 tw_560 tyX6 tyX6_ok nmX6 rfl (by decide) rfl hin rfl (by decide +kernel) rfl rfl (Nat.le_of_ble_eq_true rfl) ?_
  refine h_aload0 Y dX6_init_54 ?_
  refine h_bipush Y dX6_init_55 (by decide +kernel) ?_
  refine h_newI Y 105 dX6_init_57 tw_95 (by decide) (Nat.le_of_ble_eq_true rfl) (Nat.le_of_ble_eq_true rfl) (fun q57 => ?_)
  refine h_putF (ty := (.array .int)) Y 3 dX6_init_59 in_X6 tw_561 tyX6 tyX6_ok nmX6 rfl (by decide) rfl hin rfl (by decide +kernel) rfl rfl (Nat.le_of_ble_eq_true rfl) ?_
  refine h_aload0 Y dX6_init_62 ?_
  refine h_sipush Y dX6_init_63 (by decide +kernel) ?_
  refine h_newI Y 133 dX6_init_66 tw_95 (by decide) (Nat.le_of_ble_eq_true rfl) (Nat.le_of_ble_eq_true rfl) (fun q66 => ?_)
  refine h_putF (ty := (.array .int)) Y 5 dX6_init_68 in_X6 tw_563 tyX6 tyX6_ok nmX6 rfl (by decide) rfl hin rfl (by decide +kernel) rfl rfl (Nat.le_of_ble_eq_true rfl) ?_
  refine h_aload0 Y dX6_init_71 ?_
  refine h_bipush Y dX6_init_72 (by decide +kernel) ?_
  refine h_newL Y 16 dX6_init_74 tw_613 (by decide) (Nat.le_of_ble_eq_true rfl) (Nat.le_of_ble_eq_true rfl) (fun q74 => ?_)
  refine h_putF (ty := (.array .long)) Y 6 dX6_init_76 in_X6 tw_564 tyX6 tyX6_ok nmX6 rfl (by decide) rfl hin rfl (by decide +kernel) rfl rfl (Nat.le_of_ble_eq_true rfl) ?_
  refine h_aload0 Y dX6_init_79 ?_
  refine h_bipush Y dX6_init_80 (by decide +kernel) ?_
  refine h_newL Y 16 dX6_init_82 tw_613 (by decide) (Nat.le_of_ble_eq_true rfl) (Nat.le_of_ble_eq_true rfl) (fun q82 => ?_)
  refine h_putF (ty := (.array .long)) Y 7 dX6_init_84 in_X6 tw_565 tyX6 tyX6_ok nmX6 rfl (by decide) rfl hin rfl (by decide +kernel) rfl rfl (Nat.le_of_ble_eq_true rfl) ?_
  refine h_aload0 Y dX6_init_87 ?_
  refine h_bipush Y dX6_init_88 (by decide +kernel) ?_
  refine h_newI Y 30 dX6_init_90 tw_95 (by decide) (Nat.le_of_ble_eq_true rfl) (Nat.le_of_ble_eq_true rfl) (fun q90 => ?_)
  refine h_putF (ty := (.array .int)) Y 9 dX6_init_92 in_X6 tw_567 tyX6 tyX6_ok nmX6 rfl (by decide) rfl hin rfl (by decide +kernel) rfl rfl (Nat.le_of_ble_eq_true rfl) ?_
  refine h_aload0 Y dX6_init_95 ?_
  refine h_iconst Y dX6_init_96 ?_
  refine h_newZ Y 5 dX6_init_97 tw_96 (by decide) (Nat.le_of_ble_eq_true rfl) (Nat.le_of_ble_eq_true rfl) (fun q97 => ?_)
  refine h_putF (ty := (.array .boolean)) Y 10 dX6_init_99 in_X6 tw_568 tyX6 tyX6_ok nmX6 rfl (by decide) rfl hin rfl (by decide +kernel) rfl rfl (Nat.le_of_ble_eq_true rfl) ?_
  refine h_aload0 Y dX6_init_102 ?_
  refine h_iconst Y dX6_init_103 ?_
  refine h_newI Y 5 dX6_init_104 tw_95 (by decide) (Nat.le_of_ble_eq_true rfl) (Nat.le_of_ble_eq_true rfl) (fun q104 => ?_)
  refine h_putF (ty := (.array .int)) Y 11 dX6_init_106 in_X6 tw_569 tyX6 tyX6_ok nmX6 rfl (by decide) rfl hin rfl (by decide +kernel) rfl rfl (Nat.le_of_ble_eq_true rfl) ?_
  refine h_aload0 Y dX6_init_109 ?_
  refine h_iconst Y dX6_init_110 ?_
  refine h_newI Y 5 dX6_init_111 tw_95 (by decide) (Nat.le_of_ble_eq_true rfl) (Nat.le_of_ble_eq_true rfl) (fun q111 => ?_)
  refine h_putF (ty := (.array .int)) Y 12 dX6_init_113 in_X6 tw_570 tyX6 tyX6_ok nmX6 rfl (by decide) rfl hin rfl (by decide +kernel) rfl rfl (Nat.le_of_ble_eq_true rfl) ?_
  refine h_aload0 Y dX6_init_116 ?_
  refine h_bipush Y dX6_init_117 (by decide +kernel) ?_
  refine h_newI Y 6 dX6_init_119 tw_95 (by decide) (Nat.le_of_ble_eq_true rfl) (Nat.le_of_ble_eq_true rfl) (fun q119 => ?_)
  refine h_putF (ty := (.array .int)) Y 13 dX6_init_121 in_X6 tw_571 tyX6 tyX6_ok nmX6 rfl (by decide) rfl hin rfl (by decide +kernel) rfl rfl (Nat.le_of_ble_eq_true rfl) ?_
  refine h_aload0 Y dX6_init_124 ?_
  refine h_bipush Y dX6_init_125 (by decide +kernel) ?_
  refine h_newI Y 6 dX6_init_127 tw_95 (by decide) (Nat.le_of_ble_eq_true rfl) (Nat.le_of_ble_eq_true rfl) (fun q127 => ?_)
  refine h_putF (ty := (.array .int)) Y 14 dX6_init_129 in_X6 tw_572 tyX6 tyX6_ok nmX6 rfl (by decide) rfl hin rfl (by decide +kernel) rfl rfl (Nat.le_of_ble_eq_true rfl) ?_
  refine h_aload0 Y dX6_init_132 ?_
  refine h_bipush Y dX6_init_133 (by decide +kernel) ?_
  refine h_newI Y 30 dX6_init_135 tw_95 (by decide) (Nat.le_of_ble_eq_true rfl) (Nat.le_of_ble_eq_true rfl) (fun q135 => ?_)
  refine h_putF (ty := (.array .int)) Y 15 dX6_init_137 in_X6 tw_573 tyX6 tyX6_ok nmX6 rfl (by decide) rfl hin rfl (by decide +kernel) rfl rfl (Nat.le_of_ble_eq_true rfl) ?_
  refine h_aload0 Y dX6_init_140 ?_
  refine h_iconst Y dX6_init_141 ?_
  refine h_newZ Y 5 dX6_init_142 tw_96 (by decide) (Nat.le_of_ble_eq_true rfl) (Nat.le_of_ble_eq_true rfl) (fun q142 => ?_)
  refine h_putF (ty := (.array .boolean)) Y 16 dX6_init_144 in_X6 tw_574 tyX6 tyX6_ok nmX6 rfl (by decide) rfl hin rfl (by decide +kernel) rfl rfl (Nat.le_of_ble_eq_true rfl) ?_
  exact h_vret Y M dX6_init_147 (Nat.le_of_ble_eq_true rfl) (Nat.le_of_ble_eq_true rfl) ⟨fun i => match i with | 0 => h0 | 1 => q7 | 2 => q41 | 3 => q49 | 4 => q57 | 5 => q66 | 6 => q74 | 7 => q82 | 8 => q90 | 9 => q97 | 10 => q104 | 11 => q111 | 12 => q119 | 13 => q127 | 14 => q135 | 15 => q142 | _ => 0, rfl, rfl⟩
abbrev k_main (h0 s1 s2 sh p1 p2 : Nat) : Nat × va_E := (h0, .inr (5, [.ref s1, .ref s2, .int (zI 0), .ref sh, .ref p1, .ref p2]))
set_option maxRecDepth 100000 in
set_option maxHeartbeats 4000000 in
theorem k_X5_init (l : Launch) {D : va_G} {κ : Nat → ClassId} (h0 : Nat) : z_C l D κ yX5_init cX5_init 2 3 79 2289 [.ref h0] [(h0, .inr (5, [.null, .null, .int (zI 0), .null, .null, .null]))] (fun w => ∃ s1 s2 sh se p1 p2 : Nat → Nat, w = [k_main h0 (s1 0) (s2 0) (sh 0) (p1 0) (p2 0)] ++ k_show κ s1 ++ k_show κ s2 ++ k_shape κ sh ++ k_search κ se ++ k_plan κ p1 (se 0) ++ k_plan κ p2 (se 0)) := by
  refine z_C_of (cc := cX5_init) (own := RX5) (lv0 := [some (.ref h0), none]) (by decide) rfl rfl (Nat.le_of_ble_eq_true rfl) rfl ?_
  intro p e s m below meth c A Y hin M
  refine h_aload0 Y dX5_init_0 ?_
  refine h_obj Y dX5_init_1 tw_55 tw_56 tw_57 ⟨by decide, (Nat.le_of_ble_eq_true rfl)⟩ ?_
  refine h_aload0 Y dX5_init_4 ?_
  refine h_new (ci := 4) (C := RX4) (T := TX4) (N := 9) Y [.null, .null, .int (zI 0), .null, .int (zI 0), .int (zI 0), .int (zI 0), .int (zI 0), .int (zI 0)] dX5_init_5 in_X4 tyX4 tyX4_ok tw_58 tw_59 tw_41 rfl (fun j hj => by rcases (show j = 0 ∨ j = 1 ∨ j = 2 ∨ j = 3 ∨ j = 4 ∨ j = 5 ∨ j = 6 ∨ j = 7 ∨ j = 8 by omega) with rfl | rfl | rfl | rfl | rfl | rfl | rfl | rfl | rfl <;> rfl) (Nat.le_of_ble_eq_true rfl) (Nat.le_of_ble_eq_true rfl) (fun q5 => ?_)
  refine h_dup Y dX5_init_8 rfl ?_
  refine h_init (n := 0) Y (k_X4_init l q5) dX5_init_9 tw_62 tw_60 tw_61 tw_41 rfl rfl (Nat.le_of_ble_eq_true rfl) ⟨by decide, (Nat.le_of_ble_eq_true rfl)⟩ (by decide +kernel) rfl ⟨(Nat.le_of_ble_eq_true rfl), (Nat.le_of_ble_eq_true rfl)⟩ (fun w9 h9 => ?_)
  obtain ⟨r9, e9, rfl⟩ := h9
  subst e9
  refine h_putF (ty := (.object "DotsOnGrass$Show")) Y 0 dX5_init_12 in_X5 tw_236 tyX5 tyX5_ok nmX5 rfl (by decide) rfl hin rfl (by decide +kernel) rfl rfl (Nat.le_of_ble_eq_true rfl) ?_
  refine h_aload0 Y dX5_init_15 ?_
  refine h_new (ci := 4) (C := RX4) (T := TX4) (N := 9) Y [.null, .null, .int (zI 0), .null, .int (zI 0), .int (zI 0), .int (zI 0), .int (zI 0), .int (zI 0)] dX5_init_16 in_X4 tyX4 tyX4_ok tw_58 tw_59 tw_41 rfl (fun j hj => by rcases (show j = 0 ∨ j = 1 ∨ j = 2 ∨ j = 3 ∨ j = 4 ∨ j = 5 ∨ j = 6 ∨ j = 7 ∨ j = 8 by omega) with rfl | rfl | rfl | rfl | rfl | rfl | rfl | rfl | rfl <;> rfl) (Nat.le_of_ble_eq_true rfl) (Nat.le_of_ble_eq_true rfl) (fun q16 => ?_)
  refine h_dup Y dX5_init_19 rfl ?_
  refine h_init (n := 0) Y (k_X4_init l q16) dX5_init_20 tw_62 tw_60 tw_61 tw_41 rfl rfl (Nat.le_of_ble_eq_true rfl) ⟨by decide, (Nat.le_of_ble_eq_true rfl)⟩ (by decide +kernel) rfl ⟨(Nat.le_of_ble_eq_true rfl), (Nat.le_of_ble_eq_true rfl)⟩ (fun w20 h20 => ?_)
  obtain ⟨r20, e20, rfl⟩ := h20
  subst e20
  refine h_putF (ty := (.object "DotsOnGrass$Show")) Y 1 dX5_init_23 in_X5 tw_237 tyX5 tyX5_ok nmX5 rfl (by decide) rfl hin rfl (by decide +kernel) rfl rfl (Nat.le_of_ble_eq_true rfl) ?_
  refine h_aload0 Y dX5_init_26 ?_
  refine h_iconst Y dX5_init_27 ?_
  refine h_put (ty := .boolean) Y 2 dX5_init_28 in_X5 tw_238 tyX5 tyX5_ok nmX5 rfl (by decide) rfl (by decide +kernel) (by decide +kernel) (by decide +kernel) (Nat.le_of_ble_eq_true rfl) ?_
  refine h_aload0 Y dX5_init_31 ?_
  refine h_new (ci := 3) (C := RX3) (T := TX3) (N := 3) Y [.null, .null, .int (zI 0)] dX5_init_32 in_X3 tyX3 tyX3_ok tw_141 tw_142 tw_43 rfl (fun j hj => by rcases (show j = 0 ∨ j = 1 ∨ j = 2 by omega) with rfl | rfl | rfl <;> rfl) (Nat.le_of_ble_eq_true rfl) (Nat.le_of_ble_eq_true rfl) (fun q32 => ?_)
  refine h_dup Y dX5_init_35 rfl ?_
  refine h_initN (n := 0) Y (k_X3_init l q32) dX5_init_36 tw_145 Y.2.1.2.1.2.1 tw_144 tw_43 rfl rfl (Nat.le_of_ble_eq_true rfl) ⟨by decide, (Nat.le_of_ble_eq_true rfl)⟩ (by decide +kernel) rfl ⟨(Nat.le_of_ble_eq_true rfl), (Nat.le_of_ble_eq_true rfl)⟩ (fun w36 h36 => ?_)
  obtain ⟨r36, e36, rfl⟩ := h36
  subst e36
  refine h_putF (ty := (.object "DotsOnGrass$Shape")) Y 3 dX5_init_39 in_X5 tw_239 tyX5 tyX5_ok nmX5 rfl (by decide) rfl hin rfl (by decide +kernel) rfl rfl (Nat.le_of_ble_eq_true rfl) ?_
  refine h_new (ci := 2) (C := RX2) (T := TX2) (N := 12) Y [.int (zI 0), .int (zI 0), .int (zI 0), .null, .null, .int (zI 0), .null, .null, .null, .null, .null, .int (zI 0)] dX5_init_42 in_X2 tyX2 tyX2_ok tw_160 tw_161 tw_44 rfl (fun j hj => by rcases (show j = 0 ∨ j = 1 ∨ j = 2 ∨ j = 3 ∨ j = 4 ∨ j = 5 ∨ j = 6 ∨ j = 7 ∨ j = 8 ∨ j = 9 ∨ j = 10 ∨ j = 11 by omega) with rfl | rfl | rfl | rfl | rfl | rfl | rfl | rfl | rfl | rfl | rfl | rfl <;> rfl) (Nat.le_of_ble_eq_true rfl) (Nat.le_of_ble_eq_true rfl) (fun q42 => ?_)
  refine h_dup Y dX5_init_45 rfl ?_
  refine h_initN (n := 0) Y (k_X2_init l q42) dX5_init_46 tw_164 Y.2.1.2.1.2.2 tw_163 tw_44 rfl rfl (Nat.le_of_ble_eq_true rfl) ⟨by decide, (Nat.le_of_ble_eq_true rfl)⟩ (by decide +kernel) rfl ⟨(Nat.le_of_ble_eq_true rfl), (Nat.le_of_ble_eq_true rfl)⟩ (fun w46 h46 => ?_)
  obtain ⟨r46, e46, rfl⟩ := h46
  subst e46
  refine h_astore1 Y dX5_init_49 (by decide) rfl ?_
  refine h_aload0 Y dX5_init_50 ?_
  refine h_new (ci := 1) (C := RX1) (T := TX1) (N := 6) Y [.null, .null, .null, .null, .null, .int (zI 0)] dX5_init_51 in_X1 tyX1 tyX1_ok tw_206 tw_207 tw_45 rfl (fun j hj => by rcases (show j = 0 ∨ j = 1 ∨ j = 2 ∨ j = 3 ∨ j = 4 ∨ j = 5 by omega) with rfl | rfl | rfl | rfl | rfl | rfl <;> rfl) (Nat.le_of_ble_eq_true rfl) (Nat.le_of_ble_eq_true rfl) (fun q51 => ?_)
  refine h_dup Y dX5_init_54 rfl ?_
  refine h_aload1 Y dX5_init_55 ?_
  refine h_init (n := 1) Y (k_X1_init l q51 (r46 0)) dX5_init_56 tw_210 tw_208 tw_209 tw_45 rfl rfl (Nat.le_of_ble_eq_true rfl) ⟨by decide, (Nat.le_of_ble_eq_true rfl)⟩ (by decide +kernel) rfl ⟨(Nat.le_of_ble_eq_true rfl), (Nat.le_of_ble_eq_true rfl)⟩ (fun w56 h56 => ?_)
  obtain ⟨r56, e56, rfl⟩ := h56
  subst e56
  refine h_putF (ty := (.object "DotsOnGrass$Plan")) Y 4 dX5_init_59 in_X5 tw_240 tyX5 tyX5_ok nmX5 rfl (by decide) rfl hin rfl (by decide +kernel) rfl rfl (Nat.le_of_ble_eq_true rfl) ?_
  refine h_aload0 Y dX5_init_62 ?_
  refine h_new (ci := 1) (C := RX1) (T := TX1) (N := 6) Y [.null, .null, .null, .null, .null, .int (zI 0)] dX5_init_63 in_X1 tyX1 tyX1_ok tw_206 tw_207 tw_45 rfl (fun j hj => by rcases (show j = 0 ∨ j = 1 ∨ j = 2 ∨ j = 3 ∨ j = 4 ∨ j = 5 by omega) with rfl | rfl | rfl | rfl | rfl | rfl <;> rfl) (Nat.le_of_ble_eq_true rfl) (Nat.le_of_ble_eq_true rfl) (fun q63 => ?_)
  refine h_dup Y dX5_init_66 rfl ?_
  refine h_aload1 Y dX5_init_67 ?_
  refine h_init (n := 1) Y (k_X1_init l q63 (r46 0)) dX5_init_68 tw_210 tw_208 tw_209 tw_45 rfl rfl (Nat.le_of_ble_eq_true rfl) ⟨by decide, (Nat.le_of_ble_eq_true rfl)⟩ (by decide +kernel) rfl ⟨(Nat.le_of_ble_eq_true rfl), (Nat.le_of_ble_eq_true rfl)⟩ (fun w68 h68 => ?_)
  obtain ⟨r68, e68, rfl⟩ := h68
  subst e68
  refine h_putF (ty := (.object "DotsOnGrass$Plan")) Y 5 dX5_init_71 in_X5 tw_241 tyX5 tyX5_ok nmX5 rfl (by decide) rfl hin rfl (by decide +kernel) rfl rfl (Nat.le_of_ble_eq_true rfl) ?_
  exact h_vret Y M dX5_init_74 (Nat.le_of_ble_eq_true rfl) (Nat.le_of_ble_eq_true rfl) ⟨r9, r20, r36, r46, r56, r68, rfl⟩
