set_option maxRecDepth 100000 in
set_option maxHeartbeats 4000000 in
theorem c_X2_startFrom (l : Launch) {D : va_G} {κ : Nat → ClassId} {a : Nat → Nat} {A : Nat → Prop} (hA : z_aD a A) (σ : zSt) (b : Nat) (hb : b = 52 ∨ b = 62) (K' : Nat) (hK2 : K' + 1 < 5) (gt : Nat → Int) (V : zV) (hV : v_ok V) (hC : cSee σ V) (hKV : ((K' + 1 : Nat) : Int) < V 1) (h5n : σ 72 5 = (vN V : Int)) (hwho : ∀ t : Nat, t < vN V → σ 74 (t : Int) = vw V t) (hgt : ∀ t : Nat, t < vN V → σ (b + 5 + K') (vw V t) = gt t ∧ 0 ≤ gt t ∧ gt t < vn V (K' : Int)) : z_Tq l D κ a A yX2_startFrom cX2_startFrom 7 none 2 [.ref (a 72), .ref (a 1), .int (zI ((K' + 1 : Nat) : Int)), .ref (a (b + 5 + K'))] σ (fun σ' => cEv σ' V ((K' + 1 : Nat) : Int) gt ∧ (∀ c : Nat, c ≠ 72 → c ≠ 75 → c ≠ 76 → c ≠ 78 → c ≠ 79 → σ' c = σ c) ∧ ∀ j : Int, j ≠ 11 → σ' 72 j = σ 72 j) := by
  refine z_Tq_of (cc := cX2_startFrom) (maxL := 7) (ret := none) (own := RX2) (lv0 := [some (.ref (a 72)), some (.ref (a 1)), some (.int (zI ((K' + 1 : Nat) : Int))), some (.ref (a (b + 5 + K'))), none, none, none]) hA (by decide) rfl (Nat.le_of_ble_eq_true rfl) rfl ?_
  intro pg e s mm below meth c X M
  have hqa := z_pic.mk (b := 1) (k := K') (Or.inl rfl) (by omega)
  have hqt := z_pic.mk (b := 1) (k := K' + 1) (Or.inl rfl) hK2
  have hK1 : K' < 5 := by omega
  have hpa := hC.2.2 K' hK1
  have hpt := hC.2.2 (K' + 1) hK2
  have hna := vn_in hV (k := (K' : Int)) (by omega)
  have hnt := vn_in hV (k := ((K' + 1 : Nat) : Int)) (by omega)
  have hc1 := hV.2.2.2.2.1 ((K' + 1 : Nat) : Int) (by omega) hKV
  have hv0 := hV.1.1
  have hv2 := hV.1.2.2.1
  have hN6 := vN_le hv0
  refine r_aload1 X dX2_startFrom_0 ?_
  refine r_get X 3 dX2_startFrom_1 (z_cShow (Or.inl rfl)) in_X4 tw_107 (by decide) rfl rfl (by decide) ?_
  refine r_iload2 X dX2_startFrom_4 ?_
  refine r_iconst X dX2_startFrom_5 ?_
  refine r_isub X dX2_startFrom_6 ?_
  refine r_eqi (y := (K' : Int)) (by omega) ?_
  refine r_aald (k := K') X dX2_startFrom_7 (Or.inl rfl) hK1 ?_
  refine r_astore4 X dX2_startFrom_8 ?_
  refine r_aload1 X dX2_startFrom_10 ?_
  refine r_get X 3 dX2_startFrom_11 (z_cShow (Or.inl rfl)) in_X4 tw_107 (by decide) rfl rfl (by decide) ?_
  refine r_iload2 X dX2_startFrom_14 ?_
  refine r_aald (k := (K' + 1)) X dX2_startFrom_15 (Or.inl rfl) hK2 ?_
  refine r_astore5 X dX2_startFrom_16 ?_
  refine r_aload0 X dX2_startFrom_18 ?_
  refine r_aload1 X dX2_startFrom_19 ?_
  refine r_get X 5 dX2_startFrom_20 (z_cShow (Or.inl rfl)) in_X4 tw_114 (by decide) rfl rfl (by decide) ?_
  refine r_eqi hC.1.2.2 ?_
  refine r_put (ty := .int) X 11 11 dX2_startFrom_23 z_c72 in_X2 tw_180 tyX2 tyX2_ok nmX2 (by decide) rfl (by decide) rfl (by decide +kernel) rfl rfl (fun _ _ => rfl) (Nat.le_of_ble_eq_true rfl) ?_
  refine r_aload0 X dX2_startFrom_26 ?_
  refine r_get X 10 dX2_startFrom_27 z_c72 in_X2 tw_179 (by decide) rfl rfl (by decide) ?_
  refine r_aload0 X dX2_startFrom_30 ?_
  refine r_get X 11 dX2_startFrom_31 z_c72 in_X2 tw_180 (by decide) rfl rfl (by decide) ?_
  refine r_eqi (y := V 2) z_up_s ?_
  have J : ∀ v : Int, v = (if V 2 = 0 then 1 else 0) → z_G pg l e (z_rm 2) s mm ([.ref (a 72), .ref (a 1), .int (zI ((K' + 1 : Nat) : Int)), .ref (a (b + 5 + K'))] : List Value).toArray below meth c 7 D κ a A 0 0 (MQ below (z_Qq D κ a A (fun σ' => cEv σ' V ((K' + 1 : Nat) : Int) gt ∧ (∀ c : Nat, c ≠ 72 → c ≠ 75 → c ≠ 76 → c ≠ 78 → c ≠ 79 → σ' c = σ c) ∧ ∀ j : Int, j ≠ 11 → σ' 72 j = σ 72 j)) ([.ref (a 72), .ref (a 1), .int (zI ((K' + 1 : Nat) : Int)), .ref (a (b + 5 + K'))] : List Value).toArray s 0 0 A) (z_up σ 72 11 (V 2)) [some (.ref (a 72)), some (.ref (a 1)), some (.int (zI ((K' + 1 : Nat) : Int))), some (.ref (a (b + 5 + K'))), some (.ref (a (1 + 4 + 4 * K'))), some (.ref (a (1 + 4 + 4 * (K' + 1)))), none] 42 [.int (zI v), .ref (a 79)] := by
    intro v hv
    refine r_callSq (n := 2) X (c_J7_fill_53178 l X.2.2.1 _ 79 1764 _ z_c79 (by decide) (by decide)) dX2_startFrom_42 tw_413 tw_403 tw_48 tw_404 rfl (Nat.le_of_ble_eq_true rfl) ⟨by decide, by decide⟩ (by decide +kernel) rfl (fun σ0 h0 => ?_)
    refine r_iconst X dX2_startFrom_45 ?_
    refine r_istore6 X dX2_startFrom_46 ?_
    have L : ∀ (fu : Nat) (i : Int) (t : Nat) (σ1 : zSt), ((vN V : Int) - i) < (fu : Int) → i = (t : Int) → t ≤ vN V → (∀ c : Nat, c ≠ 72 → c ≠ 75 → c ≠ 76 → c ≠ 78 → c ≠ 79 → σ1 c = σ c) → (∀ j : Int, σ1 72 j = z_up σ 72 11 (V 2) 72 j) → (∀ j : Int, 0 ≤ j → j < 1764 → σ1 79 j = v) → (∀ u : Nat, u < t → σ1 75 (u : Int) = vx V (K' : Int) (gt u) ∧ σ1 76 (u : Int) = vy V (K' : Int) (gt u)) → (∀ (u : Nat) (d : Int), u < t → 0 ≤ d → d < vn V ((K' + 1 : Nat) : Int) → σ1 78 ((u : Int) * 7 + d) = stp V ((K' + 1 : Nat) : Int) gt u d) → z_G pg l e (z_rm 2) s mm ([.ref (a 72), .ref (a 1), .int (zI ((K' + 1 : Nat) : Int)), .ref (a (b + 5 + K'))] : List Value).toArray below meth c 7 D κ a A 0 0 (MQ below (z_Qq D κ a A (fun σ' => cEv σ' V ((K' + 1 : Nat) : Int) gt ∧ (∀ c : Nat, c ≠ 72 → c ≠ 75 → c ≠ 76 → c ≠ 78 → c ≠ 79 → σ' c = σ c) ∧ ∀ j : Int, j ≠ 11 → σ' 72 j = σ 72 j)) ([.ref (a 72), .ref (a 1), .int (zI ((K' + 1 : Nat) : Int)), .ref (a (b + 5 + K'))] : List Value).toArray s 0 0 A) σ1 [some (.ref (a 72)), some (.ref (a 1)), some (.int (zI ((K' + 1 : Nat) : Int))), some (.ref (a (b + 5 + K'))), some (.ref (a (1 + 4 + 4 * K'))), some (.ref (a (1 + 4 + 4 * (K' + 1)))), some (.int (zI i))] 48 [] := by
      intro fu
      induction fu with
      | zero =>
        intro i t σ1 hn hit ht hF h72 h79 hX hS
        omega
      | succ fu ihL =>
        intro i t σ1 hn hit ht hF h72 h79 hX hS
        refine r_iload6 X dX2_startFrom_48 ?_
        refine r_aload0 X dX2_startFrom_50 ?_
        refine r_get X 5 dX2_startFrom_51 z_c72 in_X2 tw_174 (by decide) rfl rfl (by decide) ?_
        refine r_eqi (y := (vN V : Int)) (by rw [h72, z_up_j (by decide)]; exact h5n) ?_
        refine r_icmp_ge (tgt := 131) X dX2_startFrom_54 ⟨⟨by omega, by omega⟩, by omega, by omega⟩ (fun h54 => ?_) (fun h54 => ?_)
        · have htt : t = vN V := by omega
          have hret : cEv σ1 V ((K' + 1 : Nat) : Int) gt := by
            refine ⟨by rw [h72, z_up_j (by decide)]; exact h5n, fun u d hu => hS u d (by omega), fun u t2 di d hu ht2 hdi hd => ?_, fun _ => ⟨by rw [h72, z_up_s], fun u hu => ⟨by rw [show ((K' + 1 : Nat) : Int) - 1 = (K' : Int) by omega]; exact hX u (by omega), (hgt u hu).2.1, by have := (hgt u hu).2.2; omega⟩⟩⟩
            have hix : 0 ≤ pIx u di t2 d ∧ pIx u di t2 d < 1764 := by unfold pIx; omega
            rw [h79 _ hix.1 hix.2, hv]
            by_cases e : V 2 = 0
            · rw [if_pos e]
              refine Or.inr (Or.inl ⟨rfl, fun q => ?_⟩)
              have q2 := q.2
              rw [e, Int.mul_zero] at q2
              have g1 := (hgt u hu).2
              have g2 := (hgt t2 ht2).2
              have q3 := vnear_in hV (p := ((K' + 1 : Nat) : Int)) (f1 := gt u) (d1 := di) (f2 := gt t2) (d2 := d) (by omega) (by omega) hdi (by omega) hd (by omega)
              omega
            · rw [if_neg e]
              exact Or.inl ⟨rfl, by omega⟩
          exact r_vretp X M dX2_startFrom_131 ⟨hret, hF, fun j hj => by rw [h72, z_up_j hj]⟩
        · subst hit
          have htN : t < vN V := by omega
          have ht6 : t < 6 := by omega
          have hwt := (vw_in htN).1
          have hgtt := (hgt t htN).2
          have hpar : 0 ≤ σ1 (1 + 4 + 4 * K') 3 ∧ σ1 (1 + 4 + 4 * K') 3 ≤ 7 := by rw [hF _ (by omega) (by omega) (by omega) (by omega) (by omega), hpa.1]; omega
          have hb9 := vxy_in hV (k := (K' : Int)) (d := gt t) (by omega) (by omega)
          have hbm := hV.2.1 (vw V t) (by omega) (by omega)
          have hml := z_mul_b (a := V (6 + 2 * vw V t)) (b := vc V ((K' + 1 : Nat) : Int)) (A := 4) (B := 16) (by omega) (by omega) (by omega) (by omega)
          have hmp : 0 ≤ V (6 + 2 * vw V t) * vc V ((K' + 1 : Nat) : Int) := Int.mul_nonneg (by omega) (by omega)
          refine r_aload0 X dX2_startFrom_57 ?_
          refine r_get X 6 dX2_startFrom_58 z_c72 in_X2 tw_175 (by decide) rfl rfl (by decide) ?_
          refine r_iload6 X dX2_startFrom_61 ?_
          refine r_aload4 X dX2_startFrom_63 ?_
          refine r_aload3 X dX2_startFrom_65 ?_
          refine r_aload0 X dX2_startFrom_66 ?_
          refine r_get X 4 dX2_startFrom_67 z_c72 in_X2 tw_173 (by decide) rfl rfl (by decide) ?_
          refine r_iload6 X dX2_startFrom_70 ?_
          refine r_iald X dX2_startFrom_72 z_c74 (by decide) ⟨by omega, by omega⟩ ?_
          refine r_eqi (y := vw V t) (by  rw [hF 74 (by decide) (by decide) (by decide) (by decide) (by decide)]; exact hwho t htN) ?_
          refine r_iald X dX2_startFrom_73 (z_cPlan5 hb hK1) (by omega) ⟨by omega, by omega⟩ ?_
          refine r_eqi (y := gt t) (by  rw [hF _ (by omega) (by omega) (by omega) (by omega) (by omega)]; exact (hgt t htN).1) ?_
          refine r_callVi (n := 1) X (c_X0_xOf l X.2.2.1 _ _ hqa _ ⟨by omega, by omega⟩ ⟨by omega, by omega⟩) dX2_startFrom_74 tw_418 tw_378 tw_379 tw_42 tw_380 (z_cPic (z_pic.mk (Or.inl rfl) hK1)) (Nat.lt_of_le_of_lt (Nat.le_add_right _ 3) (z_pic.lt (z_pic.mk (Or.inl rfl) hK1))) rfl rfl (Nat.le_of_ble_eq_true rfl) ⟨by decide, by decide⟩ (by decide +kernel) rfl ?_
          refine r_eqi (y := vx V (K' : Int) (gt t)) (by rw [hF _ (by omega) (by omega) (by omega) (by omega) (by omega), hF _ (by omega) (by omega) (by omega) (by omega) (by omega), hpa.1, if_pos (by omega)]; exact (hpa.2.2 (gt t) (by omega) (by omega)).1) ?_
          refine r_iast X dX2_startFrom_77 z_c75 (by decide) ⟨by omega, by omega⟩ ?_
          refine r_aload0 X dX2_startFrom_78 ?_
          refine r_get X 7 dX2_startFrom_79 z_c72 in_X2 tw_176 (by decide) rfl rfl (by decide) ?_
          refine r_iload6 X dX2_startFrom_82 ?_
          have hpar2 : 0 ≤ z_up σ1 75 (t : Int) (vx V (K' : Int) (gt t)) (1 + 4 + 4 * K') 3 ∧ z_up σ1 75 (t : Int) (vx V (K' : Int) (gt t)) (1 + 4 + 4 * K') 3 ≤ 7 := by rw [z_up_c (by omega)]; exact hpar
          refine r_aload4 X dX2_startFrom_84 ?_
          refine r_aload3 X dX2_startFrom_86 ?_
          refine r_aload0 X dX2_startFrom_87 ?_
          refine r_get X 4 dX2_startFrom_88 z_c72 in_X2 tw_173 (by decide) rfl rfl (by decide) ?_
          refine r_iload6 X dX2_startFrom_91 ?_
          refine r_iald X dX2_startFrom_93 z_c74 (by decide) ⟨by omega, by omega⟩ ?_
          refine r_eqi (y := vw V t) (by rw [z_up_c (by decide)]; rw [hF 74 (by decide) (by decide) (by decide) (by decide) (by decide)]; exact hwho t htN) ?_
          refine r_iald X dX2_startFrom_94 (z_cPlan5 hb hK1) (by omega) ⟨by omega, by omega⟩ ?_
          refine r_eqi (y := gt t) (by rw [z_up_c (by omega)]; rw [hF _ (by omega) (by omega) (by omega) (by omega) (by omega)]; exact (hgt t htN).1) ?_
          refine r_callVi (n := 1) X (c_X0_yOf l X.2.2.1 _ _ hqa _ ⟨by omega, by omega⟩ ⟨by omega, by omega⟩) dX2_startFrom_95 tw_419 tw_383 tw_384 tw_42 tw_385 (z_cPic (z_pic.mk (Or.inl rfl) hK1)) (Nat.lt_of_le_of_lt (Nat.le_add_right _ 3) (z_pic.lt (z_pic.mk (Or.inl rfl) hK1))) rfl rfl (Nat.le_of_ble_eq_true rfl) ⟨by decide, by decide⟩ (by decide +kernel) rfl ?_
          refine r_eqi (y := vy V (K' : Int) (gt t)) (by rw [z_up_c (by omega), z_up_c (by omega), hF _ (by omega) (by omega) (by omega) (by omega) (by omega), hF _ (by omega) (by omega) (by omega) (by omega) (by omega), hpa.1, if_pos (by omega)]; exact (hpa.2.2 (gt t) (by omega) (by omega)).2.1) ?_
          refine r_iast X dX2_startFrom_98 z_c76 (by decide) ⟨by omega, by omega⟩ ?_
          refine r_aload0 X dX2_startFrom_99 ?_
          refine r_aload5 X dX2_startFrom_100 ?_
          refine r_iload6 X dX2_startFrom_102 ?_
          refine r_aload1 X dX2_startFrom_104 ?_
          refine r_get X 0 dX2_startFrom_105 (z_cShow (Or.inl rfl)) in_X4 tw_99 (by decide) rfl rfl (by decide) ?_
          refine r_aload0 X dX2_startFrom_108 ?_
          refine r_get X 4 dX2_startFrom_109 z_c72 in_X2 tw_173 (by decide) rfl rfl (by decide) ?_
          refine r_iload6 X dX2_startFrom_112 ?_
          refine r_iald X dX2_startFrom_114 z_c74 (by decide) ⟨by omega, by omega⟩ ?_
          refine r_eqi (y := vw V t) (by rw [z_up_c (by decide), z_up_c (by decide)]; rw [hF 74 (by decide) (by decide) (by decide) (by decide) (by decide)]; exact hwho t htN) ?_
          refine r_iald X dX2_startFrom_115 (z_cShow1 (Or.inl rfl)) (by decide) ⟨by omega, by omega⟩ ?_
          refine r_eqi (y := V (6 + 2 * vw V t)) (by rw [z_up_c (by decide), z_up_c (by decide), hF _ (by decide) (by decide) (by decide) (by decide) (by decide)]; exact hC.2.1 _ (by omega) (by omega)) ?_
          refine r_aload5 X dX2_startFrom_116 ?_
          refine r_get X 4 dX2_startFrom_118 (z_cPic (z_pic.mk (Or.inl rfl) hK2)) in_X0 tw_82 (Nat.lt_of_le_of_lt (Nat.le_add_right _ 3) (z_pic.lt (z_pic.mk (Or.inl rfl) hK2))) rfl rfl (by decide) ?_
          refine r_eqi (y := vc V ((K' + 1 : Nat) : Int)) (by rw [z_up_c (by omega), z_up_c (by omega), hF _ (by omega) (by omega) (by omega) (by omega) (by omega)]; exact hpt.2.1 hKV) ?_
          refine r_imul X dX2_startFrom_121 ?_
          have hrc : 0 ≤ V (6 + 2 * vw V t) * vc V ((K' + 1 : Nat) : Int) ∧ V (6 + 2 * vw V t) * vc V ((K' + 1 : Nat) : Int) ≤ 1000 := by omega
          have hQ9 : z_up (z_up σ1 75 (t : Int) (vx V (K' : Int) (gt t))) 76 (t : Int) (vy V (K' : Int) (gt t)) (1 + 4 + 4 * (K' + 1)) 3 = vn V ((K' + 1 : Nat) : Int) := by
            rw [z_up_c (by omega), z_up_c (by omega), hF _ (by omega) (by omega) (by omega) (by omega) (by omega)]
            exact hpt.1
          have hXY : ∀ d : Int, 0 ≤ d → d < 7 → z_up (z_up σ1 75 (t : Int) (vx V (K' : Int) (gt t))) 76 (t : Int) (vy V (K' : Int) (gt t)) ((1 + 4 + 4 * (K' + 1)) + 1) d = vx V ((K' + 1 : Nat) : Int) d ∧ z_up (z_up σ1 75 (t : Int) (vx V (K' : Int) (gt t))) 76 (t : Int) (vy V (K' : Int) (gt t)) ((1 + 4 + 4 * (K' + 1)) + 2) d = vy V ((K' + 1 : Nat) : Int) d := fun d d0 d1 => by
            rw [z_up_c (by omega), z_up_c (by omega), z_up_c (by omega), z_up_c (by omega), hF _ (by omega) (by omega) (by omega) (by omega) (by omega), hF _ (by omega) (by omega) (by omega) (by omega) (by omega)]
            exact ⟨(hpt.2.2 d d0 d1).1, (hpt.2.2 d d0 d1).2.1⟩
          have hr9 : ∀ d : Int, 0 ≤ d → d < 7 → (0 ≤ z_up (z_up σ1 75 (t : Int) (vx V (K' : Int) (gt t))) 76 (t : Int) (vy V (K' : Int) (gt t)) ((1 + 4 + 4 * (K' + 1)) + 1) d ∧ z_up (z_up σ1 75 (t : Int) (vx V (K' : Int) (gt t))) 76 (t : Int) (vy V (K' : Int) (gt t)) ((1 + 4 + 4 * (K' + 1)) + 1) d ≤ 40) ∧ 0 ≤ z_up (z_up σ1 75 (t : Int) (vx V (K' : Int) (gt t))) 76 (t : Int) (vy V (K' : Int) (gt t)) ((1 + 4 + 4 * (K' + 1)) + 2) d ∧ z_up (z_up σ1 75 (t : Int) (vx V (K' : Int) (gt t))) 76 (t : Int) (vy V (K' : Int) (gt t)) ((1 + 4 + 4 * (K' + 1)) + 2) d ≤ 40 := fun d d0 d1 => by
            rw [(hXY d d0 d1).1, (hXY d d0 d1).2]
            exact vxy_in hV (by omega) ⟨d0, d1⟩
          have hsx9 : z_up (z_up σ1 75 (t : Int) (vx V (K' : Int) (gt t))) 76 (t : Int) (vy V (K' : Int) (gt t)) 75 (t : Int) = vx V (K' : Int) (gt t) := by rw [z_up_c (by decide), z_up_s]
          have hsy9 : z_up (z_up σ1 75 (t : Int) (vx V (K' : Int) (gt t))) 76 (t : Int) (vy V (K' : Int) (gt t)) 76 (t : Int) = vy V (K' : Int) (gt t) := z_up_s
          refine r_callVq (n := 3) X (c_X2_measureSteps l X.2.2.1 _ (K' + 1) hK2 t ht6 _ (vx V (K' : Int) (gt t)) (vy V (K' : Int) (gt t)) hrc hsx9 hsy9 hb9 (by rw [hQ9]; exact ⟨by omega, by omega⟩) hr9) dX2_startFrom_122 tw_420 tw_422 tw_5 tw_44 tw_423 z_c72 (by decide) rfl rfl (Nat.le_of_ble_eq_true rfl) ⟨by decide, by decide⟩ (by decide +kernel) rfl (fun σ5 h5 => ?_)
          have hF5 : (∀ c : Nat, c ≠ 72 → c ≠ 75 → c ≠ 76 → c ≠ 78 → c ≠ 79 → σ5 c = σ c) := fun c a b d e f => by rw [h5.1 c e, z_up_c d, z_up_c b]; exact hF c a b d e f
          have h725 : ∀ j : Int, σ5 72 j = z_up σ 72 11 (V 2) 72 j := fun j => by rw [h5.1 72 (by decide), z_up_c (by decide), z_up_c (by decide)]; exact h72 j
          have h795 : ∀ j : Int, 0 ≤ j → j < 1764 → σ5 79 j = v := fun j j0 j1 => by rw [h5.1 79 (by decide), z_up_c (by decide), z_up_c (by decide)]; exact h79 j j0 j1
          have hX5 : ∀ u : Nat, u < t + 1 → σ5 75 (u : Int) = vx V (K' : Int) (gt u) ∧ σ5 76 (u : Int) = vy V (K' : Int) (gt u) := fun u hu => by
            rw [h5.1 75 (by decide), h5.1 76 (by decide)]
            by_cases e : u = t
            · subst e
              exact ⟨hsx9, hsy9⟩
            · rw [z_up_c (by decide), z_up_j (by omega), z_up_j (by omega), z_up_c (by decide)]
              exact hX u (by omega)
          have hS5 : ∀ (u : Nat) (d : Int), u < t + 1 → 0 ≤ d → d < vn V ((K' + 1 : Nat) : Int) → σ5 78 ((u : Int) * 7 + d) = stp V ((K' + 1 : Nat) : Int) gt u d := fun u d hu d0 d1 => by
            by_cases e : u = t
            · subst e
              rw [h5.2.1 d d0 (by rw [hQ9]; exact d1), (hXY d d0 (by omega)).1, (hXY d d0 (by omega)).2]
              unfold stp vstep
              rw [if_neg (show ¬ ((K' + 1 : Nat) : Int) = 0 by omega), show ((K' + 1 : Nat) : Int) - 1 = (K' : Int) by omega]
            · rw [h5.2.2 _ (by omega), z_up_c (by decide), z_up_c (by decide)]
              exact hS u d (by omega) d0 d1
          refine r_iinc6 X dX2_startFrom_125 ?_
          refine r_goto (tgt := 48) X dX2_startFrom_128 (by decide) ?_
          exact ihL ((t : Int) + 1) (t + 1) _ (by omega) (by omega) (by omega) hF5 h725 h795 hX5 hS5
    exact L 8 0 0 σ0 (by omega) rfl (by omega) (fun c a b d e f => by rw [h0.1 c f, z_up_c a]) (fun j => by rw [h0.1 72 (by decide)]) (fun j j0 j1 => h0.2 j j0 (by omega)) (fun u hu => by omega) (fun u d hu => by omega)
  refine r_if_ne (tgt := 41) X dX2_startFrom_34 ⟨by omega, by omega⟩ (fun h34 => ?_) (fun h34 => ?_)
  · refine r_iconst X dX2_startFrom_41 ?_
    exact J _ (by first | (rw [if_pos (by omega)]; done) | (rw [if_neg (by omega)]; done))
  · refine r_iconst X dX2_startFrom_37 ?_
    refine r_goto (tgt := 42) X dX2_startFrom_38 (by decide) ?_
    exact J _ (by first | (rw [if_pos (by omega)]; done) | (rw [if_neg (by omega)]; done))

set_option maxRecDepth 100000 in
set_option maxHeartbeats 4000000 in
theorem c_X2_tell (l : Launch) {D : va_G} {κ : Nat → ClassId} {a : Nat → Nat} {A : Nat → Prop} (hA : z_aD a A) (σ : zSt) (b : Nat) (hb : b = 52 ∨ b = 62) (K : Nat) (hK : K < 5) (c0 : zAcc) (V : zV) (hV : v_ok V) (hAc : AccC σ V (K : Int) c0) (h5n : σ 72 5 = (vN V : Int)) (hwho : ∀ t : Nat, t < vN V → σ 74 (t : Int) = vw V t) : z_Tq l D κ a A yX2_tell cX2_tell 3 none 0 [.ref (a 72), .ref (a (b + 5 + K))] σ (fun σ' => (∀ c : Nat, c ≠ (b + 5 + K) → σ' c = σ c) ∧ (c0.1 = 1 → ∀ t : Nat, t < vN V → σ' (b + 5 + K) (vw V t) = c0.2.2.2 t) ∧ ∀ j : Int, (c0.1 = 0 ∨ ∀ t : Nat, t < vN V → vw V t ≠ j) → σ' (b + 5 + K) j = σ (b + 5 + K) j) := by
  refine z_Tq_of (cc := cX2_tell) (maxL := 3) (ret := none) (own := RX2) (lv0 := [some (.ref (a 72)), some (.ref (a (b + 5 + K))), none]) hA (by decide) rfl (Nat.le_of_ble_eq_true rfl) rfl ?_
  intro pg e s mm below meth c X M
  have hv0 := hV.1.1
  have hN6 := vN_le hv0
  have h01 := hAc.2.1.1
  refine r_iconst X dX2_tell_0 ?_
  refine r_istore2 X dX2_tell_1 ?_
  have L : ∀ (fu : Nat) (i : Int) (u : Nat) (σ1 : zSt), ((vN V : Int) - i) < (fu : Int) → i = (u : Int) → u ≤ vN V → (∀ c : Nat, c ≠ (b + 5 + K) → σ1 c = σ c) → (∀ t : Nat, t < u → σ1 (b + 5 + K) (vw V t) = c0.2.2.2 t) → (∀ j : Int, (c0.1 = 0 ∨ ∀ t : Nat, t < vN V → vw V t ≠ j) → σ1 (b + 5 + K) j = σ (b + 5 + K) j) → z_G pg l e (z_rm 0) s mm ([.ref (a 72), .ref (a (b + 5 + K))] : List Value).toArray below meth c 3 D κ a A 0 0 (MQ below (z_Qq D κ a A (fun σ' => (∀ c : Nat, c ≠ (b + 5 + K) → σ' c = σ c) ∧ (c0.1 = 1 → ∀ t : Nat, t < vN V → σ' (b + 5 + K) (vw V t) = c0.2.2.2 t) ∧ ∀ j : Int, (c0.1 = 0 ∨ ∀ t : Nat, t < vN V → vw V t ≠ j) → σ' (b + 5 + K) j = σ (b + 5 + K) j)) ([.ref (a 72), .ref (a (b + 5 + K))] : List Value).toArray s 0 0 A) σ1 [some (.ref (a 72)), some (.ref (a (b + 5 + K))), some (.int (zI i))] 2 [] := by
    intro fu
    induction fu with
    | zero =>
      intro i u σ1 hn hiu hu hF hT hO
      omega
    | succ fu ihL =>
      intro i u σ1 hn hiu hu hF hT hO
      refine r_aload0 X dX2_tell_2 ?_
      refine r_get X 0 dX2_tell_3 z_c72 in_X2 tw_166 (by decide) rfl rfl (by decide) ?_
      refine r_eqi (y := c0.1) (by rw [hF 72 (by omega)]; exact hAc.1) ?_
      refine r_if_eq (tgt := 37) X dX2_tell_6 ⟨by omega, by omega⟩ (fun h6 => ?_) (fun h6 => ?_)
      · exact r_vretp X M dX2_tell_37 ⟨hF, fun q t ht => hT t (by omega), hO⟩
      · refine r_iload2 X dX2_tell_9 ?_
        refine r_aload0 X dX2_tell_10 ?_
        refine r_get X 5 dX2_tell_11 z_c72 in_X2 tw_174 (by decide) rfl rfl (by decide) ?_
        refine r_eqi (y := (vN V : Int)) (by rw [hF 72 (by omega)]; exact h5n) ?_
        refine r_icmp_ge (tgt := 37) X dX2_tell_14 ⟨⟨by omega, by omega⟩, by omega, by omega⟩ (fun h14 => ?_) (fun h14 => ?_)
        · exact r_vretp X M dX2_tell_37 ⟨hF, fun q t ht => hT t (by omega), hO⟩
        · subst hiu
          have hwu := (vw_in (V := V) (t := u) (by omega)).1
          refine r_aload1 X dX2_tell_17 ?_
          refine r_aload0 X dX2_tell_18 ?_
          refine r_get X 4 dX2_tell_19 z_c72 in_X2 tw_173 (by decide) rfl rfl (by decide) ?_
          refine r_iload2 X dX2_tell_22 ?_
          refine r_iald X dX2_tell_23 z_c74 (by decide) ⟨by omega, by omega⟩ ?_
          refine r_eqi (y := vw V u) (by rw [hF 74 (by omega)]; exact hwho u (by omega)) ?_
          refine r_aload0 X dX2_tell_24 ?_
          refine r_get X 3 dX2_tell_25 z_c72 in_X2 tw_172 (by decide) rfl rfl (by decide) ?_
          refine r_iload2 X dX2_tell_28 ?_
          refine r_iald X dX2_tell_29 z_c73 (by decide) ⟨by omega, by omega⟩ ?_
          refine r_eqi (y := c0.2.2.2 u) (by rw [hF 73 (by omega)]; exact (hAc.2.2 (by omega)).2.2 u (by omega)) ?_
          refine r_iast X dX2_tell_30 (z_cPlan5 hb hK) (by omega) ⟨by omega, by omega⟩ ?_
          refine r_iinc2 X dX2_tell_31 ?_
          refine r_goto (tgt := 2) X dX2_tell_34 (by decide) ?_
          exact ihL ((u : Int) + 1) (u + 1) _ (by omega) (by omega) (by omega) (fun c hc => by rw [z_up_c hc]; exact hF c hc) (fun t ht => by by_cases e : t = u; (rw [e, z_up_s]); (rw [z_up_j (fun q => e (vw_inj (V := V) (by omega) (by omega) q))]; exact hT t (by omega))) (fun j hj => by rw [z_up_j (fun q => by rcases hj with h | h; omega; exact h u (by omega) q.symm)]; exact hO j hj)
  exact L 8 0 0 σ (by omega) rfl (by omega) (fun _ _ => rfl) (fun t ht => by omega) (fun _ _ => rfl)

