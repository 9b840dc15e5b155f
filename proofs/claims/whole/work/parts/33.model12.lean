set_option maxRecDepth 100000 in
set_option maxHeartbeats 4000000 in
theorem c_X6_allDots (l : Launch) {D : va_G} {κ : Nat → ClassId} {a : Nat → Nat} {A : Nat → Prop} (hA : z_aD a A) (σ : zSt) (V : zV) (hV : v_ok V) (hM : zModel σ V) : z_Ti l D κ a A yX6_allDots cX6_allDots 3 (some .int) 1 [.ref (a 80)] σ (v_dts V (V 1).toNat) (σ) := by
  refine z_Ti_of (cc := cX6_allDots) (maxL := 3) (ret := (some .int)) (own := RX6) (lv0 := [some (.ref (a 80)), none, none]) hA (by decide) rfl (Nat.le_of_ble_eq_true rfl) rfl ?_
  intro pg e s mm below meth c X M
  obtain ⟨⟨hv0, hv1, hv2, hv3, hv4, hv5⟩, hvm, hvb, hvk, hvc, hvd⟩ := id hV
  have e0 := hM.1 0 (by omega) (by omega)
  have e1 := hM.1 1 (by omega) (by omega)
  refine r_iconst X dX6_allDots_0 ?_
  refine r_istore1 X dX6_allDots_1 ?_
  refine r_iconst X dX6_allDots_2 ?_
  refine r_istore2 X dX6_allDots_3 ?_
  have L : ∀ (fu : Nat) (k n1 : Int), (V 1 - k) < (fu : Int) → 0 ≤ k → k ≤ V 1 → n1 = v_dts V k.toNat → 0 ≤ n1 ∧ n1 ≤ 7 * k → z_G pg l e (z_rm 1) s mm ([.ref (a 80)] : List Value).toArray below meth c 3 D κ a A 0 0 (MQ below (z_Qi D κ a A (v_dts V (V 1).toNat) (σ)) ([.ref (a 80)] : List Value).toArray s 0 0 A) σ [some (.ref (a 80)), some (.int (zI n1)), some (.int (zI k))] 4 [] := by
    intro fu
    induction fu with
    | zero =>
      intro k n1 hn k0 k1 hn1 hnr
      omega
    | succ fu ihL =>
      intro k n1 hn k0 k1 hn1 hnr
      refine r_iload2 X dX6_allDots_4 ?_
      refine r_aload0 X dX6_allDots_5 ?_
      refine r_get X 0 dX6_allDots_6 z_c80 in_X6 tw_558 (by decide) rfl rfl (by decide) ?_
      refine r_iconst X dX6_allDots_9 ?_
      refine r_iald X dX6_allDots_10 z_c81 (by decide) ⟨by omega, by omega⟩ ?_
      refine r_eqi e1 ?_
      refine r_icmp_ge (tgt := 28) X dX6_allDots_11 ⟨⟨by omega, by omega⟩, by omega, by omega⟩ (fun h11 => ?_) (fun h11 => ?_)
      · refine r_iload1 X dX6_allDots_28 ?_
        exact r_iret X M dX6_allDots_29 (by rw [hn1, show k = V 1 by omega]) rfl
      · have hn := vn_in hV (k := k) (by omega)
        refine r_iload1 X dX6_allDots_14 ?_
        refine r_aload0 X dX6_allDots_15 ?_
        refine r_iload2 X dX6_allDots_16 ?_
        refine r_callVi (n := 1) X (c_X6_dotMany l X.2.2.1 _ _ ⟨by omega, by omega⟩) dX6_allDots_17 tw_662 tw_664 tw_20 tw_46 tw_665 z_c80 (by decide) rfl rfl (Nat.le_of_ble_eq_true rfl) ⟨by decide, by decide⟩ (by decide +kernel) rfl ?_
        refine r_eqi (y := vn V k) (hM.2.2.1 _ (by omega) (by omega)) ?_
        refine r_iadd X dX6_allDots_20 ?_
        refine r_istore1 X dX6_allDots_21 ?_
        refine r_iinc2 X dX6_allDots_22 ?_
        refine r_goto (tgt := 4) X dX6_allDots_25 (by decide) ?_
        exact ihL (k + 1) _ (by omega) (by omega) (by omega) (by rw [show (k + 1).toNat = k.toNat + 1 by omega]; unfold v_dts; rw [← hn1, show ((k.toNat : Nat) : Int) = k by omega]) (by omega)
  exact L 8 0 0 (by omega) (by omega) (by omega) rfl (by omega)

set_option maxRecDepth 100000 in
set_option maxHeartbeats 4000000 in
theorem c_X6_soloMany (l : Launch) {D : va_G} {κ : Nat → ClassId} {a : Nat → Nat} {A : Nat → Prop} (hA : z_aD a A) (σ : zSt) (V : zV) (hV : v_ok V) (hM : zModel σ V) : z_Ti l D κ a A yX6_soloMany cX6_soloMany 4 (some .int) 1 [.ref (a 80)] σ (v_sls V (V 1).toNat) (σ) := by
  refine z_Ti_of (cc := cX6_soloMany) (maxL := 4) (ret := (some .int)) (own := RX6) (lv0 := [some (.ref (a 80)), none, none, none]) hA (by decide) rfl (Nat.le_of_ble_eq_true rfl) rfl ?_
  intro pg e s mm below meth c X M
  obtain ⟨⟨hv0, hv1, hv2, hv3, hv4, hv5⟩, hvm, hvb, hvk, hvc, hvd⟩ := id hV
  have e0 := hM.1 0 (by omega) (by omega)
  have e1 := hM.1 1 (by omega) (by omega)
  refine r_iconst X dX6_soloMany_0 ?_
  refine r_istore1 X dX6_soloMany_1 ?_
  refine r_iconst X dX6_soloMany_2 ?_
  refine r_istore2 X dX6_soloMany_3 ?_
  have L : ∀ (fu : Nat) (k n1 : Int) (o3 : Option Value), (V 1 - k) < (fu : Int) → 0 ≤ k → k ≤ V 1 → n1 = v_sls V k.toNat → z_G pg l e (z_rm 1) s mm ([.ref (a 80)] : List Value).toArray below meth c 4 D κ a A 0 0 (MQ below (z_Qi D κ a A (v_sls V (V 1).toNat) (σ)) ([.ref (a 80)] : List Value).toArray s 0 0 A) σ [some (.ref (a 80)), some (.int (zI n1)), some (.int (zI k)), o3] 4 [] := by
    intro fu
    induction fu with
    | zero =>
      intro k n1 o3 hn k0 k1 hn1
      omega
    | succ fu ihL =>
      intro k n1 o3 hn k0 k1 hn1
      refine r_iload2 X dX6_soloMany_4 ?_
      refine r_aload0 X dX6_soloMany_5 ?_
      refine r_get X 0 dX6_soloMany_6 z_c80 in_X6 tw_558 (by decide) rfl rfl (by decide) ?_
      refine r_iconst X dX6_soloMany_9 ?_
      refine r_iald X dX6_soloMany_10 z_c81 (by decide) ⟨by omega, by omega⟩ ?_
      refine r_eqi e1 ?_
      refine r_icmp_ge (tgt := 55) X dX6_soloMany_11 ⟨⟨by omega, by omega⟩, by omega, by omega⟩ (fun h11 => ?_) (fun h11 => ?_)
      · refine r_iload1 X dX6_soloMany_55 ?_
        exact r_iret X M dX6_soloMany_56 (by rw [hn1, show k = V 1 by omega]) rfl
      · have hn := vn_in hV (k := k) (by omega)
        refine r_iconst X dX6_soloMany_14 ?_
        refine r_istore3 X dX6_soloMany_15 ?_
        have L2 : ∀ (fu : Nat) (d n2 : Int), (vn V k - d) < (fu : Int) → 0 ≤ d → d ≤ vn V k → n2 = n1 + ((unf (vso V k) (fun _ => 0) 0 d.toNat : Nat) : Int) → z_G pg l e (z_rm 1) s mm ([.ref (a 80)] : List Value).toArray below meth c 4 D κ a A 0 0 (MQ below (z_Qi D κ a A (v_sls V (V 1).toNat) (σ)) ([.ref (a 80)] : List Value).toArray s 0 0 A) σ [some (.ref (a 80)), some (.int (zI n2)), some (.int (zI k)), some (.int (zI d))] 16 [] := by
          intro fu
          induction fu with
          | zero =>
            intro d n2 hn d0 d1 hn2
            omega
          | succ fu ihL2 =>
            intro d n2 hn d0 d1 hn2
            refine r_iload3 X dX6_soloMany_16 ?_
            refine r_aload0 X dX6_soloMany_17 ?_
            refine r_iload2 X dX6_soloMany_18 ?_
            refine r_callVi (n := 1) X (c_X6_dotMany l X.2.2.1 _ _ ⟨by omega, by omega⟩) dX6_soloMany_19 tw_662 tw_664 tw_20 tw_46 tw_665 z_c80 (by decide) rfl rfl (Nat.le_of_ble_eq_true rfl) ⟨by decide, by decide⟩ (by decide +kernel) rfl ?_
            refine r_eqi (y := vn V k) (hM.2.2.1 _ (by omega) (by omega)) ?_
            refine r_icmp_ge (tgt := 49) X dX6_soloMany_22 ⟨⟨by omega, by omega⟩, by omega, by omega⟩ (fun h22 => ?_) (fun h22 => ?_)
            · refine r_iinc2 X dX6_soloMany_49 ?_
              refine r_goto (tgt := 4) X dX6_soloMany_52 (by decide) ?_
              exact ihL (k + 1) _ _ (by omega) (by omega) (by omega) (by rw [show (k + 1).toNat = k.toNat + 1 by omega]; unfold v_sls; rw [← hn1, show ((k.toNat : Nat) : Int) = k by omega, hn2, show d.toNat = (vn V k).toNat by omega])
            · have hq := hvd (7 * k + d) (by omega) (by omega)
              rw [show 30 + 3 * (7 * k + d) = 28 + (3 * (7 * k + d) + 2) by omega] at hq
              have h01 : V (28 + (3 * (7 * k + d) + 2)) = 0 ∨ V (28 + (3 * (7 * k + d) + 2)) = 1 := by omega
              refine r_iload1 X dX6_soloMany_25 ?_
              refine r_aload0 X dX6_soloMany_26 ?_
              refine r_get X 3 dX6_soloMany_27 z_c80 in_X6 tw_561 (by decide) rfl rfl (by decide) ?_
              refine r_iconst X dX6_soloMany_30 ?_
              refine r_bipush X dX6_soloMany_31 (by decide +kernel) ?_
              refine r_iload2 X dX6_soloMany_33 ?_
              refine r_imul X dX6_soloMany_34 ?_
              refine r_iload3 X dX6_soloMany_35 ?_
              refine r_iadd X dX6_soloMany_36 ?_
              refine r_imul X dX6_soloMany_37 ?_
              refine r_iconst X dX6_soloMany_38 ?_
              refine r_iadd X dX6_soloMany_39 ?_
              refine r_iald X dX6_soloMany_40 z_c84 (by decide) ⟨by omega, by omega⟩ ?_
              refine r_eqi (hM.2.2.2 _ (by omega) (by omega)) ?_
              refine r_iadd X dX6_soloMany_41 ?_
              refine r_istore1 X dX6_soloMany_42 ?_
              refine r_iinc3 X dX6_soloMany_43 ?_
              refine r_goto (tgt := 16) X dX6_soloMany_46 (by decide) ?_
              exact ihL2 (d + 1) _ (by omega) (by omega) (by omega) (by rw [show (d + 1).toNat = d.toNat + 1 by omega, unf_s]; rcases h01 with q | q; (rw [cIf_f (fun w => by have w1 : V (28 + (3 * (7 * k + ((d.toNat : Nat) : Int)) + 2)) = 1 := w.1; rw [show ((d.toNat : Nat) : Int) = d by omega] at w1; omega)]; omega); (rw [cIf_t ⟨by show V (28 + (3 * (7 * k + ((d.toNat : Nat) : Int)) + 2)) = 1; rw [show ((d.toNat : Nat) : Int) = d by omega]; exact q, fun i hi => by omega⟩]; omega))
        exact L2 8 0 n1 (by omega) (by omega) (by omega) (by show n1 = n1 + ((0 : Nat) : Int); omega)
  exact L 8 0 0 none (by omega) (by omega) (by omega) rfl

set_option maxRecDepth 100000 in
set_option maxHeartbeats 4000000 in
theorem c_X6_allSteps (l : Launch) {D : va_G} {κ : Nat → ClassId} {a : Nat → Nat} {A : Nat → Prop} (hA : z_aD a A) (σ : zSt) (V : zV) (hV : v_ok V) (hM : zModel σ V) (hW : zWho σ) : z_Tp l D κ a A yX6_allSteps cX6_allSteps 3 (some .int) 6 [.ref (a 80)] σ (fun z σ' => z = v_sts V (V 1).toNat ∧ zMup σ σ' V) := by
  refine z_Tp_of (cc := cX6_allSteps) (maxL := 3) (ret := (some .int)) (own := RX6) (lv0 := [some (.ref (a 80)), none, none]) hA (by decide) rfl (Nat.le_of_ble_eq_true rfl) rfl ?_
  intro pg e s mm below meth c X M
  obtain ⟨⟨hv0, hv1, hv2, hv3, hv4, hv5⟩, hvm, hvb, hvk, hvc, hvd⟩ := id hV
  have e0 := hM.1 0 (by omega) (by omega)
  have e1 := hM.1 1 (by omega) (by omega)
  refine r_aload0 X dX6_allSteps_0 ?_
  refine r_callVq (n := 0) X (c_X6_findAll l X.2.2.1 _ V hV hM hW) dX6_allSteps_1 tw_715 tw_717 tw_24 tw_46 tw_718 z_c80 (by decide) rfl rfl (Nat.le_of_ble_eq_true rfl) ⟨by decide, by decide⟩ (by decide +kernel) rfl (fun σ1 h1 => ?_)
  refine r_iconst X dX6_allSteps_4 ?_
  refine r_istore1 X dX6_allSteps_5 ?_
  refine r_iconst X dX6_allSteps_6 ?_
  refine r_istore2 X dX6_allSteps_7 ?_
  have L : ∀ (fu : Nat) (k n1 : Int), (V 1 - k) < (fu : Int) → 0 ≤ k → k ≤ V 1 → n1 = v_sts V k.toNat → z_G pg l e (z_rm 6) s mm ([.ref (a 80)] : List Value).toArray below meth c 3 D κ a A 0 0 (MQ below (z_Qp D κ a A (fun z σ' => z = v_sts V (V 1).toNat ∧ zMup σ σ' V)) ([.ref (a 80)] : List Value).toArray s 0 0 A) σ1 [some (.ref (a 80)), some (.int (zI n1)), some (.int (zI k))] 8 [] := by
    intro fu
    induction fu with
    | zero =>
      intro k n1 hn k0 k1 hn1
      omega
    | succ fu ihL =>
      intro k n1 hn k0 k1 hn1
      refine r_iload2 X dX6_allSteps_8 ?_
      refine r_aload0 X dX6_allSteps_9 ?_
      refine r_get X 0 dX6_allSteps_10 z_c80 in_X6 tw_558 (by decide) rfl rfl (by decide) ?_
      refine r_iconst X dX6_allSteps_13 ?_
      refine r_iald X dX6_allSteps_14 z_c81 (by decide) ⟨by omega, by omega⟩ ?_
      refine r_eqi ((h1.up hM).1.1 1 (by omega) (by omega)) ?_
      refine r_icmp_ge (tgt := 46) X dX6_allSteps_15 ⟨⟨by omega, by omega⟩, by omega, by omega⟩ (fun h15 => ?_) (fun h15 => ?_)
      · refine r_iload1 X dX6_allSteps_46 ?_
        exact r_iretp X M dX6_allSteps_47 ⟨by rw [hn1, show k = V 1 by omega], h1.up hM⟩
      · have h01 := vfd_01 hV (k := k) (by omega)
        refine r_iload1 X dX6_allSteps_18 ?_
        refine r_aload0 X dX6_allSteps_19 ?_
        refine r_get X 10 dX6_allSteps_20 z_c80 in_X6 tw_568 (by decide) rfl rfl (by decide) ?_
        refine r_iload2 X dX6_allSteps_23 ?_
        refine r_zald X dX6_allSteps_24 z_c89 (by decide) ⟨by omega, by omega⟩ ?_
        refine r_eqi (h1.set (k := k) (by omega) (by omega)) ?_
        refine r_if_eq (tgt := 37) X dX6_allSteps_25 ⟨by omega, by omega⟩ (fun h25 => ?_) (fun h25 => ?_)
        · refine r_iconst X dX6_allSteps_37 ?_
          refine r_iadd X dX6_allSteps_38 ?_
          refine r_istore1 X dX6_allSteps_39 ?_
          refine r_iinc2 X dX6_allSteps_40 ?_
          refine r_goto (tgt := 8) X dX6_allSteps_43 (by decide) ?_
          first
          | exact ihL (k + 1) _ (by omega) (by omega) (by omega) (by rw [show (k + 1).toNat = k.toNat + 1 by omega]; unfold v_sts; rw [← hn1, if_neg (fun q => by have q2 : vfd V k = 1 := q; omega)])
          | exact ihL (k + 1) _ (by omega) (by omega) (by omega) (by rw [show (k + 1).toNat = k.toNat + 1 by omega]; unfold v_sts; rw [← hn1, if_pos (show vfd V k = 1 by omega)])
        · have hac := (h1.2.2 k.toNat (by omega)).2.2 (show vfd V k = 1 by omega)
          rw [show ((k.toNat : Nat) : Int) = k by omega] at hac
          refine r_aload0 X dX6_allSteps_28 ?_
          refine r_get X 12 dX6_allSteps_29 z_c80 in_X6 tw_570 (by decide) rfl rfl (by decide) ?_
          refine r_iload2 X dX6_allSteps_32 ?_
          refine r_iald X dX6_allSteps_33 z_c91 (by decide) ⟨by omega, by omega⟩ ?_
          refine r_eqi hac.2.1 ?_
          refine r_goto (tgt := 38) X dX6_allSteps_34 (by decide) ?_
          refine r_iadd X dX6_allSteps_38 ?_
          refine r_istore1 X dX6_allSteps_39 ?_
          refine r_iinc2 X dX6_allSteps_40 ?_
          refine r_goto (tgt := 8) X dX6_allSteps_43 (by decide) ?_
          first
          | exact ihL (k + 1) _ (by omega) (by omega) (by omega) (by rw [show (k + 1).toNat = k.toNat + 1 by omega]; unfold v_sts; rw [← hn1, if_neg (fun q => by have q2 : vfd V k = 1 := q; omega)])
          | exact ihL (k + 1) _ (by omega) (by omega) (by omega) (by rw [show (k + 1).toNat = k.toNat + 1 by omega]; unfold v_sts; rw [← hn1, if_pos (show vfd V k = 1 by omega)])
  exact L 8 0 0 (by omega) (by omega) (by omega) rfl

set_option maxRecDepth 100000 in
set_option maxHeartbeats 4000000 in
theorem c_X6_many (l : Launch) {D : va_G} {κ : Nat → ClassId} {a : Nat → Nat} {A : Nat → Prop} (hA : z_aD a A) (σ : zSt) (w : Int) (hw : z_in w) (V : zV) (hV : v_ok V) (hM : zModel σ V) (hW : zWho σ) : z_Tp l D κ a A yX6_many cX6_many 2 (some .int) 7 [.ref (a 80), .int (zI w)] σ (fun z σ' => z = s_many V w ∧ zMup σ σ' V) := by
  refine z_Tp_of (cc := cX6_many) (maxL := 2) (ret := (some .int)) (own := RX6) (lv0 := [some (.ref (a 80)), some (.int (zI w))]) hA (by decide) rfl (Nat.le_of_ble_eq_true rfl) rfl ?_
  intro pg e s mm below meth c X M
  obtain ⟨⟨hv0, hv1, hv2, hv3, hv4, hv5⟩, hvm, hvb, hvk, hvc, hvd⟩ := id hV
  have e0 := hM.1 0 (by omega) (by omega)
  have e1 := hM.1 1 (by omega) (by omega)
  refine r_iload1 X dX6_many_0 ?_
  rcases (show w = 0 ∨ w = 1 ∨ w = 2 ∨ w = 3 ∨ w = 4 ∨ w = 5 ∨ (w < 0 ∨ 5 < w) by omega) with rfl | rfl | rfl | rfl | rfl | rfl | hw9
  · refine r_tabIn (tgt := 40) (off := 39) X dX6_many_1 ⟨by omega, by omega⟩ ⟨by omega, by omega⟩ (by decide) (by decide) ?_
    refine r_aload0 X dX6_many_40 ?_
    refine r_get X 0 dX6_many_41 z_c80 in_X6 tw_558 (by decide) rfl rfl (by decide) ?_
    refine r_iconst X dX6_many_44 ?_
    refine r_iald X dX6_many_45 z_c81 (by decide) ⟨by omega, by omega⟩ ?_
    refine r_eqi e0 ?_
    exact r_iretp X M dX6_many_46 ⟨by unfold s_many; simp, zMup.refl hM⟩
  · refine r_tabIn (tgt := 47) (off := 46) X dX6_many_1 ⟨by omega, by omega⟩ ⟨by omega, by omega⟩ (by decide) (by decide) ?_
    refine r_aload0 X dX6_many_47 ?_
    refine r_callVi (n := 0) X (c_X6_present l X.2.2.1 _ V hV hM) dX6_many_48 tw_762 tw_764 tw_33 tw_46 tw_765 z_c80 (by decide) rfl rfl (Nat.le_of_ble_eq_true rfl) ⟨by decide, by decide⟩ (by decide +kernel) rfl ?_
    exact r_iretp X M dX6_many_51 ⟨by unfold s_many; simp, zMup.refl hM⟩
  · refine r_tabIn (tgt := 52) (off := 51) X dX6_many_1 ⟨by omega, by omega⟩ ⟨by omega, by omega⟩ (by decide) (by decide) ?_
    refine r_aload0 X dX6_many_52 ?_
    refine r_get X 0 dX6_many_53 z_c80 in_X6 tw_558 (by decide) rfl rfl (by decide) ?_
    refine r_iconst X dX6_many_56 ?_
    refine r_iald X dX6_many_57 z_c81 (by decide) ⟨by omega, by omega⟩ ?_
    refine r_eqi e1 ?_
    exact r_iretp X M dX6_many_58 ⟨by unfold s_many; simp, zMup.refl hM⟩
  · refine r_tabIn (tgt := 59) (off := 58) X dX6_many_1 ⟨by omega, by omega⟩ ⟨by omega, by omega⟩ (by decide) (by decide) ?_
    refine r_aload0 X dX6_many_59 ?_
    refine r_callVi (n := 0) X (c_X6_allDots l X.2.2.1 _ V hV hM) dX6_many_60 tw_793 tw_795 tw_34 tw_46 tw_796 z_c80 (by decide) rfl rfl (Nat.le_of_ble_eq_true rfl) ⟨by decide, by decide⟩ (by decide +kernel) rfl ?_
    exact r_iretp X M dX6_many_63 ⟨by unfold s_many; simp, zMup.refl hM⟩
  · refine r_tabIn (tgt := 64) (off := 63) X dX6_many_1 ⟨by omega, by omega⟩ ⟨by omega, by omega⟩ (by decide) (by decide) ?_
    refine r_aload0 X dX6_many_64 ?_
    refine r_callVi (n := 0) X (c_X6_soloMany l X.2.2.1 _ V hV hM) dX6_many_65 tw_797 tw_799 tw_35 tw_46 tw_800 z_c80 (by decide) rfl rfl (Nat.le_of_ble_eq_true rfl) ⟨by decide, by decide⟩ (by decide +kernel) rfl ?_
    exact r_iretp X M dX6_many_68 ⟨by unfold s_many; simp, zMup.refl hM⟩
  · refine r_tabIn (tgt := 69) (off := 68) X dX6_many_1 ⟨by omega, by omega⟩ ⟨by omega, by omega⟩ (by decide) (by decide) ?_
    refine r_aload0 X dX6_many_69 ?_
    refine r_callVp (n := 0) X (c_X6_allSteps l X.2.2.1 _ V hV hM hW) dX6_many_70 tw_801 tw_803 tw_36 tw_46 tw_804 z_c80 (by decide) rfl rfl (Nat.le_of_ble_eq_true rfl) ⟨by decide, by decide⟩ (by decide +kernel) rfl (fun z2 σ2 h2 => ?_)
    exact r_iretp X M dX6_many_73 ⟨by unfold s_many; simp; exact h2.1, h2.2⟩
  · refine r_tabOut (tgt := 74) X dX6_many_1 ⟨by omega, by omega⟩ (by omega) (by decide) ?_
    refine r_iconst X dX6_many_74 ?_
    exact r_iretp X M dX6_many_75 ⟨by unfold s_many; (repeat' split) <;> omega, zMup.refl hM⟩

set_option maxRecDepth 100000 in
set_option maxHeartbeats 4000000 in
theorem c_X6_move (l : Launch) {D : va_G} {κ : Nat → ClassId} {a : Nat → Nat} {A : Nat → Prop} (hA : z_aD a A) (σ : zSt) (q n : Nat) (hE : ∀ f, z_ce κ a q f = z_eI κ n f) (hq96 : q < 96) (hq80 : q ≠ 80) (hq85 : q ≠ 85) (hn9 : n < 1000) (kp : Int) (hkp : kp = 0 ∨ kp = 1) (hpl : 0 ≤ σ 80 17 ∧ σ 80 17 + (n : Int) ≤ 133) : z_Tq l D κ a A yX6_move cX6_move 5 none 0 [.ref (a 80), .ref (a q), .int (zI (n : Int)), .int (zI kp)] σ (fun σ' => (∀ c : Nat, c ≠ 80 → c ≠ 85 → c ≠ q → σ' c = σ c) ∧ (∀ j : Int, j ≠ 17 → σ' 80 j = σ 80 j) ∧ σ' 80 17 = σ 80 17 + (n : Int) ∧ (kp = 1 → σ' q = σ q ∧ (∀ j : Int, (j < σ 80 17 ∨ σ 80 17 + (n : Int) ≤ j) → σ' 85 j = σ 85 j) ∧ ∀ j : Int, 0 ≤ j → j < (n : Int) → σ' 85 (σ 80 17 + j) = σ q j) ∧ (kp = 0 → σ' 85 = σ 85 ∧ ∀ j : Int, 0 ≤ j → j < (n : Int) → σ' q j = σ 85 (σ 80 17 + j))) := by
  refine z_Tq_of (cc := cX6_move) (maxL := 5) (ret := none) (own := RX6) (lv0 := [some (.ref (a 80)), some (.ref (a q)), some (.int (zI (n : Int))), some (.int (zI kp)), none]) hA (by decide) rfl (Nat.le_of_ble_eq_true rfl) rfl ?_
  intro pg e s mm below meth c X M
  refine r_iconst X dX6_move_0 ?_
  refine r_istore4 X dX6_move_1 ?_
  have L : ∀ (fu : Nat) (i : Int) (σ1 : zSt), ((n : Int) - i) < (fu : Int) → 0 ≤ i → i ≤ (n : Int) → (∀ c : Nat, c ≠ 80 → c ≠ 85 → c ≠ q → σ1 c = σ c) → (∀ j : Int, j ≠ 17 → σ1 80 j = σ 80 j) → σ1 80 17 = σ 80 17 + i → (kp = 1 → σ1 q = σ q ∧ (∀ j : Int, (j < σ 80 17 ∨ σ 80 17 + i ≤ j) → σ1 85 j = σ 85 j) ∧ ∀ j : Int, 0 ≤ j → j < i → σ1 85 (σ 80 17 + j) = σ q j) → (kp = 0 → σ1 85 = σ 85 ∧ ∀ j : Int, 0 ≤ j → j < i → σ1 q j = σ 85 (σ 80 17 + j)) → z_G pg l e (z_rm 0) s mm ([.ref (a 80), .ref (a q), .int (zI (n : Int)), .int (zI kp)] : List Value).toArray below meth c 5 D κ a A 0 0 (MQ below (z_Qq D κ a A (fun σ' => (∀ c : Nat, c ≠ 80 → c ≠ 85 → c ≠ q → σ' c = σ c) ∧ (∀ j : Int, j ≠ 17 → σ' 80 j = σ 80 j) ∧ σ' 80 17 = σ 80 17 + (n : Int) ∧ (kp = 1 → σ' q = σ q ∧ (∀ j : Int, (j < σ 80 17 ∨ σ 80 17 + (n : Int) ≤ j) → σ' 85 j = σ 85 j) ∧ ∀ j : Int, 0 ≤ j → j < (n : Int) → σ' 85 (σ 80 17 + j) = σ q j) ∧ (kp = 0 → σ' 85 = σ 85 ∧ ∀ j : Int, 0 ≤ j → j < (n : Int) → σ' q j = σ 85 (σ 80 17 + j)))) ([.ref (a 80), .ref (a q), .int (zI (n : Int)), .int (zI kp)] : List Value).toArray s 0 0 A) σ1 [some (.ref (a 80)), some (.ref (a q)), some (.int (zI (n : Int))), some (.int (zI kp)), some (.int (zI i))] 3 [] := by
    intro fu
    induction fu with
    | zero =>
      intro i σ1 hn i0 i1 hF hG hP hA1 hB1
      omega
    | succ fu ihL =>
      intro i σ1 hn i0 i1 hF hG hP hA1 hB1
      refine r_iload4 X dX6_move_3 ?_
      refine r_iload2 X dX6_move_5 ?_
      refine r_icmp_ge (tgt := 58) X dX6_move_6 ⟨⟨by omega, by omega⟩, by omega, by omega⟩ (fun h6 => ?_) (fun h6 => ?_)
      · exact r_vretp X M dX6_move_58 ⟨hF, hG, by rw [hP]; omega, fun e => ⟨(hA1 e).1, fun j hj => (hA1 e).2.1 j (by omega), fun j j0 j1 => (hA1 e).2.2 j j0 (by omega)⟩, fun e => ⟨(hB1 e).1, fun j j0 j1 => (hB1 e).2 j j0 (by omega)⟩⟩
      · refine r_iload3 X dX6_move_9 ?_
        refine r_if_eq (tgt := 29) X dX6_move_10 ⟨by omega, by omega⟩ (fun h10 => ?_) (fun h10 => ?_)
        · have hk0 : kp = 0 := by omega
          refine r_aload1 X dX6_move_29 ?_
          refine r_iload4 X dX6_move_30 ?_
          refine r_aload0 X dX6_move_32 ?_
          refine r_get X 5 dX6_move_33 z_c80 in_X6 tw_563 (by decide) rfl rfl (by decide) ?_
          refine r_aload0 X dX6_move_36 ?_
          refine r_get X 17 dX6_move_37 z_c80 in_X6 tw_575 (by decide) rfl rfl (by decide) ?_
          refine r_eqi hP ?_
          refine r_iald X dX6_move_40 z_c85 (by decide) ⟨by omega, by omega⟩ ?_
          refine r_eqi (y := σ 85 (σ 80 17 + i)) (by rw [(hB1 hk0).1]) ?_
          refine r_iast X dX6_move_41 hE hq96 ⟨by omega, by omega⟩ (hn := by omega) ?_
          refine r_aload0 X dX6_move_42 ?_
          refine r_dup X dX6_move_43 rfl ?_
          refine r_get X 17 dX6_move_44 z_c80 in_X6 tw_575 (by decide) rfl rfl (by decide) ?_
          refine r_eqi (y := σ 80 17 + i) (by first | (rw [z_up_c (by decide)]; exact hP) | (rw [z_up_c (fun e => hq80 e.symm)]; exact hP)) ?_
          refine r_iconst X dX6_move_47 ?_
          refine r_iadd X dX6_move_48 ?_
          refine r_put (ty := .int) X 17 17 dX6_move_49 z_c80 in_X6 tw_575 tyX6 tyX6_ok nmX6 (by decide) rfl (by decide) rfl (by decide +kernel) rfl rfl (fun _ _ => rfl) (Nat.le_of_ble_eq_true rfl) ?_
          refine r_iinc4 X dX6_move_52 ?_
          refine r_goto (tgt := 3) X dX6_move_55 (by decide) ?_
          first
          | exact ihL (i + 1) _ (by omega) (by omega) (by omega) (fun c a b d => by rw [z_up_c a, z_up_c b]; exact hF c a b d) (fun j hj => by rw [z_up_j hj, z_up_c (by decide)]; exact hG j hj) (by rw [z_up_s]; omega) (fun e => ⟨by rw [z_up_c hq80, z_up_c hq85]; exact (hA1 e).1, fun j hj => by rw [z_up_c (by decide), z_up_j (by omega)]; exact (hA1 e).2.1 j (by omega), fun j j0 j1 => by
              rw [z_up_c (by decide)]
              by_cases e2 : j = i
              · rw [e2, z_up_s]
              · rw [z_up_j (by omega)]; exact (hA1 e).2.2 j j0 (by omega)⟩) (fun e => by omega)
          | exact ihL (i + 1) _ (by omega) (by omega) (by omega) (fun c a b d => by rw [z_up_c a, z_up_c d]; exact hF c a b d) (fun j hj => by rw [z_up_j hj, z_up_c (fun e => hq80 e.symm)]; exact hG j hj) (by rw [z_up_s]; omega) (fun e => by omega) (fun e => ⟨by rw [z_up_c (by decide), z_up_c (fun e => hq85 e.symm)]; exact (hB1 e).1, fun j j0 j1 => by
              rw [z_up_c hq80]
              by_cases e2 : j = i
              · rw [e2, z_up_s]
              · rw [z_up_j (by omega)]; exact (hB1 e).2 j j0 (by omega)⟩)
        · have hk1 : kp = 1 := by omega
          refine r_aload0 X dX6_move_13 ?_
          refine r_get X 5 dX6_move_14 z_c80 in_X6 tw_563 (by decide) rfl rfl (by decide) ?_
          refine r_aload0 X dX6_move_17 ?_
          refine r_get X 17 dX6_move_18 z_c80 in_X6 tw_575 (by decide) rfl rfl (by decide) ?_
          refine r_eqi hP ?_
          refine r_aload1 X dX6_move_21 ?_
          refine r_iload4 X dX6_move_22 ?_
          refine r_iald X dX6_move_24 hE hq96 ⟨by omega, by omega⟩ (hn := by omega) ?_
          refine r_eqi (y := σ q i) (by rw [(hA1 hk1).1]) ?_
          refine r_iast X dX6_move_25 z_c85 (by decide) ⟨by omega, by omega⟩ ?_
          refine r_goto (tgt := 42) X dX6_move_26 (by decide) ?_
          refine r_aload0 X dX6_move_42 ?_
          refine r_dup X dX6_move_43 rfl ?_
          refine r_get X 17 dX6_move_44 z_c80 in_X6 tw_575 (by decide) rfl rfl (by decide) ?_
          refine r_eqi (y := σ 80 17 + i) (by first | (rw [z_up_c (by decide)]; exact hP) | (rw [z_up_c (fun e => hq80 e.symm)]; exact hP)) ?_
          refine r_iconst X dX6_move_47 ?_
          refine r_iadd X dX6_move_48 ?_
          refine r_put (ty := .int) X 17 17 dX6_move_49 z_c80 in_X6 tw_575 tyX6 tyX6_ok nmX6 (by decide) rfl (by decide) rfl (by decide +kernel) rfl rfl (fun _ _ => rfl) (Nat.le_of_ble_eq_true rfl) ?_
          refine r_iinc4 X dX6_move_52 ?_
          refine r_goto (tgt := 3) X dX6_move_55 (by decide) ?_
          first
          | exact ihL (i + 1) _ (by omega) (by omega) (by omega) (fun c a b d => by rw [z_up_c a, z_up_c b]; exact hF c a b d) (fun j hj => by rw [z_up_j hj, z_up_c (by decide)]; exact hG j hj) (by rw [z_up_s]; omega) (fun e => ⟨by rw [z_up_c hq80, z_up_c hq85]; exact (hA1 e).1, fun j hj => by rw [z_up_c (by decide), z_up_j (by omega)]; exact (hA1 e).2.1 j (by omega), fun j j0 j1 => by
              rw [z_up_c (by decide)]
              by_cases e2 : j = i
              · rw [e2, z_up_s]
              · rw [z_up_j (by omega)]; exact (hA1 e).2.2 j j0 (by omega)⟩) (fun e => by omega)
          | exact ihL (i + 1) _ (by omega) (by omega) (by omega) (fun c a b d => by rw [z_up_c a, z_up_c d]; exact hF c a b d) (fun j hj => by rw [z_up_j hj, z_up_c (fun e => hq80 e.symm)]; exact hG j hj) (by rw [z_up_s]; omega) (fun e => by omega) (fun e => ⟨by rw [z_up_c (by decide), z_up_c (fun e => hq85 e.symm)]; exact (hB1 e).1, fun j j0 j1 => by
              rw [z_up_c hq80]
              by_cases e2 : j = i
              · rw [e2, z_up_s]
              · rw [z_up_j (by omega)]; exact (hB1 e).2 j j0 (by omega)⟩)
  exact L (n + 1) 0 σ (by omega) (by omega) (by omega) (fun _ _ _ _ => rfl) (fun _ _ => rfl) (by omega) (fun _ => ⟨rfl, fun _ _ => rfl, fun j _ _ => by omega⟩) (fun _ => ⟨rfl, fun j _ _ => by omega⟩)

set_option maxRecDepth 100000 in
set_option maxHeartbeats 4000000 in
theorem c_X6_moveAll (l : Launch) {D : va_G} {κ : Nat → ClassId} {a : Nat → Nat} {A : Nat → Prop} (hA : z_aD a A) (σ : zSt) (kp : Int) (hkp : kp = 0 ∨ kp = 1) (V : zV) (hM : zModel σ V) : z_Tq l D κ a A yX6_moveAll cX6_moveAll 2 none 1 [.ref (a 80), .int (zI kp)] σ (fun σ' => (∀ c : Nat, c < 80 ∨ 86 ≤ c → σ' c = σ c) ∧ (∀ j : Int, j ≠ 17 → σ' 80 j = σ 80 j) ∧ (kp = 1 → zModel σ' V ∧ ∀ j : Int, 0 ≤ j → j < 133 → σ' 85 j = V j) ∧ (kp = 0 → zModel σ' (σ 85) ∧ σ' 85 = σ 85)) := by
  refine z_Tq_of (cc := cX6_moveAll) (maxL := 2) (ret := none) (own := RX6) (lv0 := [some (.ref (a 80)), some (.int (zI kp))]) hA (by decide) rfl (Nat.le_of_ble_eq_true rfl) rfl ?_
  intro pg e s mm below meth c X M
  refine r_aload0 X dX6_moveAll_0 ?_
  refine r_iconst X dX6_moveAll_1 ?_
  refine r_put (ty := .int) X 17 17 dX6_moveAll_2 z_c80 in_X6 tw_575 tyX6 tyX6_ok nmX6 (by decide) rfl (by decide) rfl (by decide +kernel) rfl rfl (fun _ _ => rfl) (Nat.le_of_ble_eq_true rfl) ?_
  refine r_aload0 X dX6_moveAll_5 ?_
  refine r_aload0 X dX6_moveAll_6 ?_
  refine r_get X 0 dX6_moveAll_7 z_c80 in_X6 tw_558 (by decide) rfl rfl (by decide) ?_
  refine r_bipush X dX6_moveAll_10 (by decide +kernel) ?_
  refine r_iload1 X dX6_moveAll_12 ?_
  refine r_callVq (n := 3) X (c_X6_move l X.2.2.1 _ 81 6 z_c81 (by decide) (by decide) (by decide) (by decide) _ hkp (by rw [z_up_s]; omega)) dX6_moveAll_13 tw_813 tw_815 tw_38 tw_46 tw_816 z_c80 (by decide) rfl rfl (Nat.le_of_ble_eq_true rfl) ⟨by decide, by decide⟩ (by decide +kernel) rfl (fun s81 h81 => ?_)
  have p81 : s81 80 17 = 6 := by rw [h81.2.2.1, z_up_s]; omega
  refine r_aload0 X dX6_moveAll_16 ?_
  refine r_aload0 X dX6_moveAll_17 ?_
  refine r_get X 1 dX6_moveAll_18 z_c80 in_X6 tw_559 (by decide) rfl rfl (by decide) ?_
  refine r_bipush X dX6_moveAll_21 (by decide +kernel) ?_
  refine r_iload1 X dX6_moveAll_23 ?_
  refine r_callVq (n := 3) X (c_X6_move l X.2.2.1 _ 82 12 z_c82 (by decide) (by decide) (by decide) (by decide) _ hkp (by rw [p81]; omega)) dX6_moveAll_24 tw_813 tw_815 tw_38 tw_46 tw_816 z_c80 (by decide) rfl rfl (Nat.le_of_ble_eq_true rfl) ⟨by decide, by decide⟩ (by decide +kernel) rfl (fun s82 h82 => ?_)
  have p82 : s82 80 17 = 18 := by rw [h82.2.2.1, p81]; omega
  refine r_aload0 X dX6_moveAll_27 ?_
  refine r_aload0 X dX6_moveAll_28 ?_
  refine r_get X 2 dX6_moveAll_29 z_c80 in_X6 tw_560 (by decide) rfl rfl (by decide) ?_
  refine r_bipush X dX6_moveAll_32 (by decide +kernel) ?_
  refine r_iload1 X dX6_moveAll_34 ?_
  refine r_callVq (n := 3) X (c_X6_move l X.2.2.1 _ 83 10 z_c83 (by decide) (by decide) (by decide) (by decide) _ hkp (by rw [p82]; omega)) dX6_moveAll_35 tw_813 tw_815 tw_38 tw_46 tw_816 z_c80 (by decide) rfl rfl (Nat.le_of_ble_eq_true rfl) ⟨by decide, by decide⟩ (by decide +kernel) rfl (fun s83 h83 => ?_)
  have p83 : s83 80 17 = 28 := by rw [h83.2.2.1, p82]; omega
  refine r_aload0 X dX6_moveAll_38 ?_
  refine r_aload0 X dX6_moveAll_39 ?_
  refine r_get X 3 dX6_moveAll_40 z_c80 in_X6 tw_561 (by decide) rfl rfl (by decide) ?_
  refine r_bipush X dX6_moveAll_43 (by decide +kernel) ?_
  refine r_iload1 X dX6_moveAll_45 ?_
  refine r_callVq (n := 3) X (c_X6_move l X.2.2.1 _ 84 105 z_c84 (by decide) (by decide) (by decide) (by decide) _ hkp (by rw [p83]; omega)) dX6_moveAll_46 tw_813 tw_815 tw_38 tw_46 tw_816 z_c80 (by decide) rfl rfl (Nat.le_of_ble_eq_true rfl) ⟨by decide, by decide⟩ (by decide +kernel) rfl (fun s84 h84 => ?_)
  have g81 : ∀ c : Nat, c ≠ 80 → c ≠ 85 → c ≠ 81 → s81 c = σ c := fun c a b d => by rw [h81.1 c a b d, z_up_c a]
  have hfin : (∀ c : Nat, c < 80 ∨ 86 ≤ c → s84 c = σ c) ∧ (∀ j : Int, j ≠ 17 → s84 80 j = σ 80 j) ∧ (kp = 1 → zModel s84 V ∧ ∀ j : Int, 0 ≤ j → j < 133 → s84 85 j = V j) ∧ (kp = 0 → zModel s84 (σ 85) ∧ s84 85 = σ 85) := by
    refine ⟨fun c hc => ?_, fun j hj => ?_, fun e => ?_, fun e => ?_⟩
    · rw [h84.1 c (by omega) (by omega) (by omega), h83.1 c (by omega) (by omega) (by omega), h82.1 c (by omega) (by omega) (by omega), g81 c (by omega) (by omega) (by omega)]
    · rw [h84.2.1 j hj, h83.2.1 j hj, h82.2.1 j hj, h81.2.1 j hj, z_up_j hj]
    · have a1 := h81.2.2.2.1 e
      have a2 := h82.2.2.2.1 e
      have a3 := h83.2.2.2.1 e
      have a4 := h84.2.2.2.1 e
      rw [z_up_s] at a1
      rw [p81] at a2
      rw [p82] at a3
      rw [p83] at a4
      have m81 : s84 81 = σ 81 := by rw [h84.1 81 (by decide) (by decide) (by decide), h83.1 81 (by decide) (by decide) (by decide), h82.1 81 (by decide) (by decide) (by decide), a1.1, z_up_c (by decide)]
      have m82 : s82 82 = σ 82 := by rw [a2.1, g81 82 (by decide) (by decide) (by decide)]
      have m83 : s83 83 = σ 83 := by rw [a3.1, h82.1 83 (by decide) (by decide) (by decide), g81 83 (by decide) (by decide) (by decide)]
      have m84 : s84 84 = σ 84 := by rw [a4.1, h83.1 84 (by decide) (by decide) (by decide), h82.1 84 (by decide) (by decide) (by decide), g81 84 (by decide) (by decide) (by decide)]
      refine ⟨hM.of m81 (by rw [h84.1 82 (by decide) (by decide) (by decide), h83.1 82 (by decide) (by decide) (by decide)]; exact m82) (by rw [h84.1 83 (by decide) (by decide) (by decide)]; exact m83) m84, fun j j0 j1 => ?_⟩
      by_cases q1 : j < 6
      · rw [a4.2.1 j (by omega), a3.2.1 j (by omega), a2.2.1 j (by omega), show j = 0 + j by omega, a1.2.2 j j0 (by omega), z_up_c (by decide), hM.1 j j0 (by omega), Int.zero_add]
      · by_cases q2 : j < 18
        · rw [a4.2.1 j (by omega), a3.2.1 j (by omega), show j = 6 + (j - 6) by omega, a2.2.2 (j - 6) (by omega) (by omega), g81 82 (by decide) (by decide) (by decide)]
          exact hM.2.1 _ (by omega) (by omega)
        · by_cases q3 : j < 28
          · rw [a4.2.1 j (by omega), show j = 18 + (j - 18) by omega, a3.2.2 (j - 18) (by omega) (by omega), h82.1 83 (by decide) (by decide) (by decide), g81 83 (by decide) (by decide) (by decide)]
            exact hM.2.2.1 _ (by omega) (by omega)
          · rw [show j = 28 + (j - 28) by omega, a4.2.2 (j - 28) (by omega) (by omega), h83.1 84 (by decide) (by decide) (by decide), h82.1 84 (by decide) (by decide) (by decide), g81 84 (by decide) (by decide) (by decide)]
            exact hM.2.2.2 _ (by omega) (by omega)
    · have b1 := h81.2.2.2.2 e
      have b2 := h82.2.2.2.2 e
      have b3 := h83.2.2.2.2 e
      have b4 := h84.2.2.2.2 e
      rw [z_up_s] at b1
      rw [p81] at b2
      rw [p82] at b3
      rw [p83] at b4
      have k1 : s81 85 = σ 85 := by rw [b1.1, z_up_c (by decide)]
      have k2 : s82 85 = σ 85 := by rw [b2.1, k1]
      have k3 : s83 85 = σ 85 := by rw [b3.1, k2]
      refine ⟨⟨fun j j0 j1 => ?_, fun j j0 j1 => ?_, fun j j0 j1 => ?_, fun j j0 j1 => ?_⟩, by rw [b4.1, k3]⟩
      · rw [h84.1 81 (by decide) (by decide) (by decide), h83.1 81 (by decide) (by decide) (by decide), h82.1 81 (by decide) (by decide) (by decide), b1.2 j j0 (by omega), z_up_c (by decide), Int.zero_add]
      · rw [h84.1 82 (by decide) (by decide) (by decide), h83.1 82 (by decide) (by decide) (by decide), b2.2 j j0 (by omega), k1]
      · rw [h84.1 83 (by decide) (by decide) (by decide), b3.2 j j0 (by omega), k2]
      · rw [b4.2 j j0 (by omega), k3]
  exact r_vretp X M dX6_moveAll_49 hfin

set_option maxRecDepth 100000 in
set_option maxHeartbeats 4000000 in
theorem c_X6_keep (l : Launch) {D : va_G} {κ : Nat → ClassId} {a : Nat → Nat} {A : Nat → Prop} (hA : z_aD a A) (σ : zSt) (V : zV) (hM : zModel σ V) : z_Tp l D κ a A yX6_keep cX6_keep 1 (some .int) 2 [.ref (a 80)] σ (fun z σ' => z = 1 ∧ zModel σ' V ∧ (∀ c : Nat, c < 80 ∨ 86 ≤ c → σ' c = σ c) ∧ σ' 80 4 = 1 ∧ ∀ j : Int, 0 ≤ j → j < 133 → σ' 85 j = V j) := by
  refine z_Tp_of (cc := cX6_keep) (maxL := 1) (ret := (some .int)) (own := RX6) (lv0 := [some (.ref (a 80))]) hA (by decide) rfl (Nat.le_of_ble_eq_true rfl) rfl ?_
  intro pg e s mm below meth c X M
  refine r_aload0 X dX6_keep_0 ?_
  refine r_iconst X dX6_keep_1 ?_
  refine r_callVq (n := 1) X (c_X6_moveAll l X.2.2.1 _ _ (Or.inr rfl) V hM) dX6_keep_2 tw_809 tw_811 tw_37 tw_46 tw_812 z_c80 (by decide) rfl rfl (Nat.le_of_ble_eq_true rfl) ⟨by decide, by decide⟩ (by decide +kernel) rfl (fun σ1 h1 => ?_)
  refine r_aload0 X dX6_keep_5 ?_
  refine r_iconst X dX6_keep_6 ?_
  refine r_put (ty := .boolean) X 4 4 dX6_keep_7 z_c80 in_X6 tw_562 tyX6 tyX6_ok nmX6 (by decide) rfl (by decide) rfl (by decide +kernel) (zI_narB (by omega)) (zI_fitB (by omega)) (fun _ _ => rfl) (Nat.le_of_ble_eq_true rfl) ?_
  refine r_iconst X dX6_keep_10 ?_
  exact r_iretp X M dX6_keep_11 ⟨rfl, (h1.2.2.1 rfl).1.of (z_up_c (by decide)) (z_up_c (by decide)) (z_up_c (by decide)) (z_up_c (by decide)), fun c hc => by rw [z_up_c (by omega)]; exact h1.1 c hc, z_up_s, fun j j0 j1 => by rw [z_up_c (by decide)]; exact (h1.2.2.1 rfl).2 j j0 j1⟩

set_option maxRecDepth 100000 in
set_option maxHeartbeats 4000000 in
theorem c_X6_back (l : Launch) {D : va_G} {κ : Nat → ClassId} {a : Nat → Nat} {A : Nat → Prop} (hA : z_aD a A) (σ : zSt) (V : zV) (hM : zModel σ V) (hkt : σ 80 4 = 0 ∨ σ 80 4 = 1) : z_Tp l D κ a A yX6_back cX6_back 1 (some .int) 2 [.ref (a 80)] σ (fun z σ' => (σ 80 4 = 0 → z = -3 ∧ σ' = σ) ∧ (σ 80 4 = 1 → z = 1 ∧ zMup σ σ' (σ 85))) := by
  refine z_Tp_of (cc := cX6_back) (maxL := 1) (ret := (some .int)) (own := RX6) (lv0 := [some (.ref (a 80))]) hA (by decide) rfl (Nat.le_of_ble_eq_true rfl) rfl ?_
  intro pg e s mm below meth c X M
  refine r_aload0 X dX6_back_0 ?_
  refine r_get X 4 dX6_back_1 z_c80 in_X6 tw_562 (by decide) rfl rfl (by decide) ?_
  refine r_if_ne (tgt := 10) X dX6_back_4 ⟨by omega, by omega⟩ (fun h4 => ?_) (fun h4 => ?_)
  · refine r_aload0 X dX6_back_10 ?_
    refine r_iconst X dX6_back_11 ?_
    refine r_callVq (n := 1) X (c_X6_moveAll l X.2.2.1 _ _ (Or.inl rfl) V hM) dX6_back_12 tw_809 tw_811 tw_37 tw_46 tw_812 z_c80 (by decide) rfl rfl (Nat.le_of_ble_eq_true rfl) ⟨by decide, by decide⟩ (by decide +kernel) rfl (fun σ1 h1 => ?_)
    refine r_iconst X dX6_back_15 ?_
    exact r_iretp X M dX6_back_16 ⟨fun e => by omega, fun _ => ⟨rfl, (h1.2.2.2 rfl).1, fun c hc => by rcases hc with q | q; exact h1.1 c (by omega); (rw [q]; exact (h1.2.2.2 rfl).2), h1.2.1 4 (by decide), fun q => q.of (h1.1 93 (by decide))⟩⟩
  · refine r_bipush X dX6_back_7 (by decide +kernel) ?_
    exact r_iretp X M dX6_back_9 ⟨fun _ => ⟨rfl, rfl⟩, fun e => by omega⟩

