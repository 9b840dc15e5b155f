theorem z_abs_nn (x : Int) : 0 ≤ z_abs x := by unfold z_abs; split <;> omega
theorem vst_nn (V : zV) (p : Int) (gt : Nat → Int) (t d : Nat) : 0 ≤ vst V p gt t d := by
  unfold vst vstep
  split
  · omega
  · have := z_abs_nn (vx V p (d : Int) - vx V (p - 1) (gt t))
    omega
/-- the plan at b holds the setting c of picture K -/
def PlanC (σ : zSt) (V : zV) (b K : Nat) (c : zAcc) : Prop := σ (b + 1) (K : Int) = c.1 ∧ (c.1 = 1 → σ (b + 2) (K : Int) = c.2.1 ∧ σ (b + 3) (K : Int) = c.2.2.1 ∧ ∀ t : Nat, t < vN V → σ (b + 5 + K) (vw V t) = c.2.2.2 t) ∧ ∀ j : Int, 0 ≤ j → j < 6 → (c.1 = 0 ∨ ∀ t : Nat, t < vN V → vw V t ≠ j) → σ (b + 5 + K) j = -1
/-- only what the plan at b holds of picture K, and the search, has changed -/
def zFP (σ σ' : zSt) (b K : Nat) : Prop := (∀ c : Nat, c ≠ b + 1 → c ≠ b + 2 → c ≠ b + 3 → c ≠ b + 5 + K → (c < 72 ∨ 80 ≤ c) → σ' c = σ c) ∧ ∀ x : Int, x ≠ (K : Int) → σ' (b + 1) x = σ (b + 1) x ∧ σ' (b + 2) x = σ (b + 2) x ∧ σ' (b + 3) x = σ (b + 3) x
theorem PlanC.fp {σ σ1 : zSt} {V : zV} {b K K2 : Nat} {c : zAcc} (h : PlanC σ V b K c) (hb : b = 52 ∨ b = 62) (hK : K < 5) (hF : zFP σ σ1 b K2) (hne : K ≠ K2) : PlanC σ1 V b K c := by
  obtain ⟨h1, h2, h3⟩ := h
  have hx := hF.2 (K : Int) (by omega)
  have hg : σ1 (b + 5 + K) = σ (b + 5 + K) := hF.1 _ (by omega) (by omega) (by omega) (by omega) (by omega)
  exact ⟨hx.1.trans h1, fun e => ⟨hx.2.1.trans (h2 e).1, hx.2.2.trans (h2 e).2.1, fun t ht => by rw [hg]; exact (h2 e).2.2 t ht⟩, fun j j0 j1 hj => by rw [hg]; exact h3 j j0 j1 hj⟩

set_option maxRecDepth 100000 in
set_option maxHeartbeats 4000000 in
theorem c_X1_settle (l : Launch) {D : va_G} {κ : Nat → ClassId} {a : Nat → Nat} {A : Nat → Prop} (hA : z_aD a A) (σ : zSt) (b : Nat) (hb : b = 52 ∨ b = 62) (K : Nat) (hK : K < 5) (lvr : Int) (hl : -1 ≤ lvr ∧ lvr < 6) (V : zV) (hV : v_ok V) (hC : cSee σ V) (hKV : (K : Int) < V 1) (hill : ∀ m : Int, 0 ≤ m → m < V 0 → (V (6 + (2 * m + 1)) = 0 ↔ σ (1 + 2) m = 0 ∧ m ≠ lvr)) (hil01 : ∀ m : Int, 0 ≤ m → m < 6 → σ (1 + 2) m = 0 ∨ σ (1 + 2) m = 1) (hP : ∀ K' : Nat, K = K' + 1 → PlanC σ V b K' (vS V K')) : z_Tq l D κ a A yX1_settle cX1_settle 5 none 11 [.ref (a b), .ref (a 1), .int (zI (K : Int)), .int (zI lvr)] σ (fun σ' => PlanC σ' V b K (vS V K) ∧ zFP σ σ' b K) := by
  refine z_Tq_of (cc := cX1_settle) (maxL := 5) (ret := none) (own := RX1) (lv0 := [some (.ref (a b)), some (.ref (a 1)), some (.int (zI (K : Int))), some (.int (zI lvr)), none]) hA (by decide) rfl (Nat.le_of_ble_eq_true rfl) rfl ?_
  intro pg e s mm below meth c X M
  have hv0 := hV.1.1
  have hN6 := vN_le hv0
  have hnn := vn_in hV (k := (K : Int)) (by omega)
  have hqk := z_pic.mk (b := 1) (k := K) (Or.inl rfl) hK
  have J72 : ∀ (gt : Nat → Int) (σd : zSt), cEv σd V (K : Int) gt → (∀ c : Nat, c ≠ b + 1 → c ≠ (b + 5 + K) → (c < 72 ∨ 80 ≤ c) → σd c = σ c) → σd 72 0 = 0 → (∀ t : Nat, t < vN V → σd 74 (t : Int) = vw V t) → (∀ j : Int, 0 ≤ j → j < 6 → σd (b + 5 + K) j = -1) → (∀ x : Int, x ≠ (K : Int) → σd (b + 1) x = σ (b + 1) x) → vS V K = vD V (K : Int) gt → z_G pg l e (z_rm 11) s mm ([.ref (a b), .ref (a 1), .int (zI (K : Int)), .int (zI lvr)] : List Value).toArray below meth c 5 D κ a A 0 0 (MQ below (z_Qq D κ a A (fun σ' => PlanC σ' V b K (vS V K) ∧ zFP σ σ' b K)) ([.ref (a b), .ref (a 1), .int (zI (K : Int)), .int (zI lvr)] : List Value).toArray s 0 0 A) σd [some (.ref (a b)), some (.ref (a 1)), some (.int (zI (K : Int))), some (.int (zI lvr)), none] 72 [] := by
    intro gt σd hEv hFd h720 hwho hgm hx1 hvS
    have hCd : cSee σd V := hC.of (fun c hc => hFd c (by omega) (by omega) (by omega))
    have hpk := hCd.2.2 K hK
    have hAc : AccC σd V (K : Int) zAcc0 := ⟨h720, ⟨Or.inl rfl, fun h => by cases h⟩, fun h => by cases h⟩
    have hgood := vS_good hV K hK
    refine r_aload1 X dX1_settle_72 ?_
    refine r_get X 3 dX1_settle_73 (z_cShow (Or.inl rfl)) in_X4 tw_109 (by decide) rfl rfl (by decide) ?_
    refine r_iload2 X dX1_settle_76 ?_
    refine r_aald (k := K) X dX1_settle_77 (Or.inl rfl) hK ?_
    refine r_astore4 X dX1_settle_78 ?_
    refine r_aload0 X dX1_settle_80 ?_
    refine r_get X 4 dX1_settle_81 (z_cPlan hb) in_X1 tw_221 (by omega) rfl rfl (by decide) ?_
    refine r_aload4 X dX1_settle_84 ?_
    refine r_iconst X dX1_settle_86 ?_
    refine r_iconst X dX1_settle_87 ?_
    have hz01 : ∀ d : Int, 0 ≤ d → d < 7 → σd ((1 + 4 + 4 * K) + 3) d = 0 ∨ σd ((1 + 4 + 4 * K) + 3) d = 1 := fun d d0 d1 => by
      rw [(hpk.2.2 d d0 d1).2.2]
      have h9 := hV.2.2.2.2.2 (7 * (K : Int) + d) (by omega) (by omega)
      rw [show 30 + 3 * (7 * (K : Int) + d) = 28 + (3 * (7 * (K : Int) + d) + 2) by omega] at h9
      omega
    refine r_aload4 X dX1_settle_88 ?_
    have hslv : ((unf (fun d : Nat => σd ((1 + 4 + 4 * K) + 3) (d : Int) = 1) (fun _ => 0) 0 (σd (1 + 4 + 4 * K) 3).toNat : Nat) : Int) = ((unf (vso V (K : Int)) (fun _ => 0) 0 (vn V (K : Int)).toNat : Nat) : Int) := by
      rw [hpk.1, unf_c (so' := vso V (K : Int)) (vn V (K : Int)).toNat (fun i hi => by
        show σd ((1 + 4 + 4 * K) + 3) (i : Int) = 1 ↔ V (28 + (3 * (7 * (K : Int) + (i : Int)) + 2)) = 1
        rw [(hpk.2.2 (i : Int) (by omega) (by omega)).2.2])]
    refine r_callVi (n := 0) X (c_X0_solos l X.2.2.1 _ _ hqk ⟨by rw [hpk.1]; omega, by rw [hpk.1]; omega⟩ hz01) dX1_settle_90 tw_430 tw_431 tw_432 tw_42 tw_433 (z_cPic (z_pic.mk (Or.inl rfl) hK)) (Nat.lt_of_le_of_lt (Nat.le_add_right _ 3) (z_pic.lt (z_pic.mk (Or.inl rfl) hK))) rfl rfl (Nat.le_of_ble_eq_true rfl) ⟨by decide, by decide⟩ (by decide +kernel) rfl ?_
    refine r_eqi hslv ?_
    refine r_iconst X dX1_settle_93 ?_
    refine r_iconst X dX1_settle_94 ?_
    refine r_callVNq (n := 6) (rest := []) X (c_X2_choose l X.2.2.1 K hK gt V hV hKV (vN V) 0 (fun _ => 0) 0 _ 0 0 zAcc0 _ (by omega) ⟨by decide, fun e he => ⟨fun h => by simp at h, fun h => by obtain ⟨i, hi, _⟩ := h; omega⟩⟩ rfl ⟨by omega, by omega⟩ (fun i hi => by omega) hAc hEv hCd) dX1_settle_95 tw_437 X.2.1.2.2.1 tw_6 tw_436 tw_44 z_c72 (by decide) rfl rfl (Nat.le_of_ble_eq_true rfl) ⟨by show _ ≤ 11; omega, by show _ ≤ 64 * 11; omega⟩ (by decide +kernel) rfl (fun σe he0 => ?_)
    have hvD : cdfs (vok V (K : Int) gt) (vst V (K : Int) gt) (vso V (K : Int)) (vn V (K : Int)).toNat (vN V) 0 (fun _ => 0) 0 0 zAcc0 = vS V K := by
      rw [hvS]
      exact cdfs_eq (fun t d _ => vst_nn V (K : Int) gt t d) (fun tk => Iff.rfl) (vN V) 0 _ 0 0 zAcc0 (by omega) (Or.inl rfl)
    have hAe := he0.1
    rw [hvD] at hAe
    have hFe := he0.2.2.1
    obtain ⟨g9, hg9⟩ : ∃ g9 : Int, σe 72 1 = g9 := ⟨_, rfl⟩
    obtain ⟨s9, hs9⟩ : ∃ s9 : Int, σe 72 2 = s9 := ⟨_, rfl⟩
    refine r_aload0 X dX1_settle_98 ?_
    refine r_get X 0 dX1_settle_99 (z_cPlan hb) in_X1 tw_214 (by omega) rfl rfl (by decide) ?_
    refine r_iload2 X dX1_settle_102 ?_
    refine r_aload0 X dX1_settle_103 ?_
    refine r_get X 4 dX1_settle_104 (z_cPlan hb) in_X1 tw_221 (by omega) rfl rfl (by decide) ?_
    refine r_get X 0 dX1_settle_107 z_c72 in_X2 tw_167 (by decide) rfl rfl (by decide) ?_
    refine r_eqi (y := (vS V K).1) hAe.1 ?_
    refine r_zast X dX1_settle_110 (z_cPlan1 hb) (by omega) ⟨by omega, by omega⟩ (by have := hgood.1; omega) ?_
    refine r_aload0 X dX1_settle_111 ?_
    refine r_get X 1 dX1_settle_112 (z_cPlan hb) in_X1 tw_216 (by omega) rfl rfl (by decide) ?_
    refine r_iload2 X dX1_settle_115 ?_
    refine r_aload0 X dX1_settle_116 ?_
    refine r_get X 4 dX1_settle_117 (z_cPlan hb) in_X1 tw_221 (by omega) rfl rfl (by decide) ?_
    refine r_get X 1 dX1_settle_120 z_c72 in_X2 tw_169 (by decide) rfl rfl (by decide) ?_
    refine r_eqi (y := g9) (by rw [z_up_c (by omega)]; exact hg9) ?_
    refine r_iast X dX1_settle_123 (z_cPlan2 hb) (by omega) ⟨by omega, by omega⟩ ?_
    refine r_aload0 X dX1_settle_124 ?_
    refine r_get X 2 dX1_settle_125 (z_cPlan hb) in_X1 tw_218 (by omega) rfl rfl (by decide) ?_
    refine r_iload2 X dX1_settle_128 ?_
    refine r_aload0 X dX1_settle_129 ?_
    refine r_get X 4 dX1_settle_130 (z_cPlan hb) in_X1 tw_221 (by omega) rfl rfl (by decide) ?_
    refine r_get X 2 dX1_settle_133 z_c72 in_X2 tw_171 (by decide) rfl rfl (by decide) ?_
    refine r_eqi (y := s9) (by rw [z_up_c (by omega), z_up_c (by omega)]; exact hs9) ?_
    refine r_iast X dX1_settle_136 (z_cPlan3 hb) (by omega) ⟨by omega, by omega⟩ ?_
    refine r_aload0 X dX1_settle_137 ?_
    refine r_get X 4 dX1_settle_138 (z_cPlan hb) in_X1 tw_221 (by omega) rfl rfl (by decide) ?_
    refine r_aload0 X dX1_settle_141 ?_
    refine r_get X 3 dX1_settle_142 (z_cPlan hb) in_X1 tw_220 (by omega) rfl rfl (by decide) ?_
    refine r_iload2 X dX1_settle_145 ?_
    refine r_gald (k := K) X dX1_settle_146 hb hK ?_
    have hne : ∀ k : Nat, 72 ≤ k → k < 80 → k ≠ b + 1 ∧ k ≠ b + 2 ∧ k ≠ b + 3 := fun k h1 h2 => by omega
    have hA9 : AccC (z_up (z_up (z_up σe (b + 1) (K : Int) (vS V K).1) (b + 2) (K : Int) g9) (b + 3) (K : Int) s9) V (K : Int) (vS V K) := hAe.of (by rw [z_up_c (by omega), z_up_c (by omega), z_up_c (by omega)]) (by rw [z_up_c (by omega), z_up_c (by omega), z_up_c (by omega)])
    have h5n9 : z_up (z_up (z_up σe (b + 1) (K : Int) (vS V K).1) (b + 2) (K : Int) g9) (b + 3) (K : Int) s9 72 5 = (vN V : Int) := by rw [z_up_c (by omega), z_up_c (by omega), z_up_c (by omega)]; exact he0.2.1.1
    have hw9 : ∀ t : Nat, t < vN V → z_up (z_up (z_up σe (b + 1) (K : Int) (vS V K).1) (b + 2) (K : Int) g9) (b + 3) (K : Int) s9 74 (t : Int) = vw V t := fun t ht => by rw [z_up_c (by omega), z_up_c (by omega), z_up_c (by omega), hFe 74 (by decide) (by decide) (by decide) (by decide)]; exact hwho t ht
    refine r_callVq (n := 1) X (c_X2_tell l X.2.2.1 _ b hb K hK (vS V K) V hV hA9 h5n9 hw9) dX1_settle_147 tw_461 tw_462 tw_463 tw_44 tw_464 z_c72 (by decide) rfl rfl (Nat.le_of_ble_eq_true rfl) ⟨by decide, by decide⟩ (by decide +kernel) rfl (fun σf hf0 => ?_)
    have hfin : PlanC σf V b K (vS V K) ∧ zFP σ σf b K := by
      have hgf : σe (b + 5 + K) = σd (b + 5 + K) := hFe _ (by omega) (by omega) (by omega) (by omega)
      refine ⟨⟨?_, fun e => ⟨?_, ?_, hf0.2.1 e⟩, fun j j0 j1 hj => ?_⟩, ⟨fun c c1 c2 c3 c4 c5 => ?_, fun x hx => ⟨?_, ?_, ?_⟩⟩⟩
      · rw [hf0.1 _ (by omega), z_up_c (by omega), z_up_c (by omega), z_up_s]
      · rw [hf0.1 _ (by omega), z_up_c (by omega), z_up_s, ← hg9]; exact (hAe.2.2 e).1
      · rw [hf0.1 _ (by omega), z_up_s, ← hs9]; exact (hAe.2.2 e).2.1
      · rw [hf0.2.2 j hj, z_up_c (by omega), z_up_c (by omega), z_up_c (by omega), hgf]; exact hgm j j0 j1
      · rw [hf0.1 c c4, z_up_c c3, z_up_c c2, z_up_c c1, hFe c (by omega) (by omega) (by omega) (by omega)]; exact hFd c c1 c4 c5
      · rw [hf0.1 _ (by omega), z_up_c (by omega), z_up_c (by omega), z_up_j hx, hFe _ (by omega) (by omega) (by omega) (by omega)]; exact hx1 x hx
      · rw [hf0.1 _ (by omega), z_up_c (by omega), z_up_j hx, z_up_c (by omega), hFe _ (by omega) (by omega) (by omega) (by omega), hFd _ (by omega) (by omega) (by omega)]
      · rw [hf0.1 _ (by omega), z_up_j hx, z_up_c (by omega), z_up_c (by omega), hFe _ (by omega) (by omega) (by omega) (by omega), hFd _ (by omega) (by omega) (by omega)]
    exact r_vretp X M dX1_settle_150 hfin
  refine r_aload0 X dX1_settle_0 ?_
  refine r_get X 0 dX1_settle_1 (z_cPlan hb) in_X1 tw_214 (by omega) rfl rfl (by decide) ?_
  refine r_iload2 X dX1_settle_4 ?_
  refine r_iconst X dX1_settle_5 ?_
  refine r_zast X dX1_settle_6 (z_cPlan1 hb) (by omega) ⟨by omega, by omega⟩ (by omega) ?_
  refine r_aload0 X dX1_settle_7 ?_
  refine r_get X 3 dX1_settle_8 (z_cPlan hb) in_X1 tw_220 (by omega) rfl rfl (by decide) ?_
  refine r_iload2 X dX1_settle_11 ?_
  refine r_gald (k := K) X dX1_settle_12 hb hK ?_
  refine r_iconst X dX1_settle_13 ?_
  refine r_callSq (n := 2) X (c_J7_fill_53178 l X.2.2.1 _ (b + 5 + K) 6 _ (z_cPlan5 hb hK) (by omega) (by decide)) dX1_settle_14 tw_402 tw_403 tw_48 tw_404 rfl (Nat.le_of_ble_eq_true rfl) ⟨by decide, by decide⟩ (by decide +kernel) rfl (fun σb hb0 => ?_)
  refine r_aload0 X dX1_settle_17 ?_
  refine r_get X 4 dX1_settle_18 (z_cPlan hb) in_X1 tw_221 (by omega) rfl rfl (by decide) ?_
  refine r_aload1 X dX1_settle_21 ?_
  refine r_iload3 X dX1_settle_22 ?_
  have hFb : ∀ c : Nat, c ≠ b + 1 → c ≠ (b + 5 + K) → σb c = σ c := fun c h1 h2 => by rw [hb0.1 c h2, z_up_c h1]
  have hillb : ∀ m : Int, 0 ≤ m → m < V 0 → (V (6 + (2 * m + 1)) = 0 ↔ σb (1 + 2) m = 0 ∧ m ≠ lvr) := by rw [hFb (1 + 2) (by omega) (by omega)]; exact hill
  have hil01b : ∀ m : Int, 0 ≤ m → m < 6 → σb (1 + 2) m = 0 ∨ σb (1 + 2) m = 1 := by rw [hFb (1 + 2) (by omega) (by omega)]; exact hil01
  refine r_callVq (n := 2) X (c_X2_begin l X.2.2.1 _ lvr hl V hV (hC.of (fun c hc => hFb c (by omega) (by omega))) hillb hil01b) dX1_settle_23 tw_405 tw_406 tw_407 tw_44 tw_408 z_c72 (by decide) rfl rfl (Nat.le_of_ble_eq_true rfl) ⟨by decide, by decide⟩ (by decide +kernel) rfl (fun σc hc0 => ?_)
  have hFc : (∀ c : Nat, c ≠ b + 1 → c ≠ (b + 5 + K) → (c < 72 ∨ 80 ≤ c) → σc c = σ c) := fun c h1 h2 h3 => by rw [hc0.1 c (by omega) (by omega)]; exact hFb c h1 h2
  have hgmc : ∀ j : Int, 0 ≤ j → j < 6 → σc (b + 5 + K) j = -1 := fun j j0 j1 => by rw [hc0.1 _ (by omega) (by omega)]; exact hb0.2 j j0 (by omega)
  have hx1c : ∀ x : Int, x ≠ (K : Int) → σc (b + 1) x = σ (b + 1) x := fun x hx => by rw [hc0.1 _ (by omega) (by omega), hb0.1 _ (by omega), z_up_j hx]
  refine r_iload2 X dX1_settle_26 ?_
  refine r_if_ne (tgt := 40) X dX1_settle_27 ⟨by omega, by omega⟩ (fun h27 => ?_) (fun h27 => ?_)
  · obtain ⟨K', rfl⟩ : ∃ K' : Nat, K = K' + 1 := ⟨K - 1, by omega⟩
    have hK1 : K' < 5 := by omega
    have hprev := hP K' rfl
    have hgd := vS_good hV K' hK1
    have hgd1 := hgd.1
    have hn1 := vn_in hV (k := (K' : Int)) (by omega)
    have hset : σc (b + 1) (K' : Int) = (vS V K').1 := by rw [hx1c _ (by omega)]; exact hprev.1
    have hgiv : σc (b + 5 + K') = σ (b + 5 + K') := hFc _ (by omega) (by omega) (by omega)
    refine r_aload0 X dX1_settle_40 ?_
    refine r_get X 0 dX1_settle_41 (z_cPlan hb) in_X1 tw_214 (by omega) rfl rfl (by decide) ?_
    refine r_iload2 X dX1_settle_44 ?_
    refine r_iconst X dX1_settle_45 ?_
    refine r_isub X dX1_settle_46 ?_
    refine r_eqi (y := (K' : Int)) (by omega) ?_
    refine r_zald X dX1_settle_47 (z_cPlan1 hb) (by omega) ⟨by omega, by omega⟩ ?_
    refine r_eqi hset ?_
    refine r_if_eq (tgt := 71) X dX1_settle_48 ⟨by omega, by omega⟩ (fun h48 => ?_) (fun h48 => ?_)
    · exact r_vretp X M dX1_settle_71 ⟨by rw [show vS V (K' + 1) = zAcc0 from by show cIf ((vS V K').1 = 1) _ zAcc0 = zAcc0; rw [cIf_f (by omega)]]; exact ⟨by rw [hc0.1 _ (by omega) (by omega), hb0.1 _ (by omega), z_up_s], (fun h => absurd h (by decide)), fun j j0 j1 _ => hgmc j j0 j1⟩, ⟨fun c c1 c2 c3 c4 c5 => hFc c c1 c4 c5, fun x hx => ⟨hx1c x hx, by rw [hFc _ (by omega) (by omega) (by omega)], by rw [hFc _ (by omega) (by omega) (by omega)]⟩⟩⟩
    · refine r_aload0 X dX1_settle_51 ?_
      refine r_get X 4 dX1_settle_52 (z_cPlan hb) in_X1 tw_221 (by omega) rfl rfl (by decide) ?_
      refine r_aload1 X dX1_settle_55 ?_
      refine r_iload2 X dX1_settle_56 ?_
      refine r_aload0 X dX1_settle_57 ?_
      refine r_get X 3 dX1_settle_58 (z_cPlan hb) in_X1 tw_220 (by omega) rfl rfl (by decide) ?_
      refine r_iload2 X dX1_settle_61 ?_
      refine r_iconst X dX1_settle_62 ?_
      refine r_isub X dX1_settle_63 ?_
      refine r_eqi (y := (K' : Int)) (by omega) ?_
      refine r_gald (k := K') X dX1_settle_64 hb hK1 ?_
      refine r_callVq (n := 3) X (c_X2_startFrom l X.2.2.1 _ b hb K' hK (vS V K').2.2.2 V hV (hC.of (fun c hc => hFc c (by omega) (by omega) (by omega))) hKV hc0.2.1.2.2.2 hc0.2.2 (fun t ht => by rw [hgiv]; have q := (hgd.2 (by omega)).2.2 t ht; exact ⟨(hprev.2.1 (by omega)).2.2 t ht, q.1, q.2⟩)) dX1_settle_65 tw_414 tw_415 tw_416 tw_44 tw_417 z_c72 (by decide) rfl rfl (Nat.le_of_ble_eq_true rfl) ⟨by decide, by decide⟩ (by decide +kernel) rfl (fun σd hd0 => ?_)
      refine r_goto (tgt := 72) X dX1_settle_68 (by decide) ?_
      exact J72 (vS V K').2.2.2 σd hd0.1 (fun c h1 h2 h3 => by rw [hd0.2.1 c (by omega) (by omega) (by omega) (by omega) (by omega)]; exact hFc c h1 h2 h3) (by rw [hd0.2.2 0 (by decide)]; exact hc0.2.1.1) (fun t ht => by rw [hd0.2.1 74 (by decide) (by decide) (by decide) (by decide) (by decide)]; exact hc0.2.2 t ht) (fun j j0 j1 => by rw [hd0.2.1 _ (by omega) (by omega) (by omega) (by omega) (by omega)]; exact hgmc j j0 j1) (fun x hx => by rw [hd0.2.1 _ (by omega) (by omega) (by omega) (by omega) (by omega)]; exact hx1c x hx) (by show cIf ((vS V K').1 = 1) _ zAcc0 = _; rw [cIf_t (by omega)]; rfl)
  · refine r_aload0 X dX1_settle_30 ?_
    refine r_get X 4 dX1_settle_31 (z_cPlan hb) in_X1 tw_221 (by omega) rfl rfl (by decide) ?_
    refine r_callVq (n := 0) X (c_X2_startAnywhere l X.2.2.1 _) dX1_settle_34 tw_409 tw_410 tw_411 tw_44 tw_412 z_c72 (by decide) rfl rfl (Nat.le_of_ble_eq_true rfl) ⟨by decide, by decide⟩ (by decide +kernel) rfl (fun σd hd0 => ?_)
    refine r_goto (tgt := 72) X dX1_settle_37 (by decide) ?_
    exact J72 (fun _ => 0) _ ⟨by rw [hd0.1 72 (by decide) (by decide)]; exact hc0.2.1.2.2.2, fun t d ht d0 d1 => by
        rw [hd0.2.1 _ (by omega) (by omega)]
        unfold stp
        rw [if_pos (by omega)], fun i t di d hi ht hdi hd => Or.inr (Or.inl ⟨hd0.2.2 _ (by unfold pIx; omega) (by unfold pIx; omega), fun q => q.1 (by omega)⟩), fun q => absurd (show (K : Int) = 0 by omega) q⟩ (fun c h1 h2 h3 => by rw [hd0.1 c (by omega) (by omega)]; exact hFc c h1 h2 h3) (by rw [hd0.1 72 (by decide) (by decide)]; exact hc0.2.1.1) (fun t ht => by rw [hd0.1 74 (by decide) (by decide)]; exact hc0.2.2 t ht) (fun j j0 j1 => by rw [hd0.1 _ (by omega) (by omega)]; exact hgmc j j0 j1) (fun x hx => by rw [hd0.1 _ (by omega) (by omega)]; exact hx1c x hx) (by rw [show K = 0 by omega]; rfl)

set_option maxRecDepth 100000 in
set_option maxHeartbeats 4000000 in
theorem c_X1_settleTo (l : Launch) {D : va_G} {κ : Nat → ClassId} {a : Nat → Nat} {A : Nat → Prop} (hA : z_aD a A) (σ : zSt) (b : Nat) (hb : b = 52 ∨ b = 62) (last : Int) (hlast : -1 ≤ last ∧ last < 5) (lvr : Int) (hl : -1 ≤ lvr ∧ lvr < 6) (V : zV) (hV : v_ok V) (hC : cSee σ V) (hkn0 : 0 ≤ σ b 5 ∧ σ b 5 ≤ 5) (hill : ∀ m : Int, 0 ≤ m → m < V 0 → (V (6 + (2 * m + 1)) = 0 ↔ σ (1 + 2) m = 0 ∧ m ≠ lvr)) (hil01 : ∀ m : Int, 0 ≤ m → m < 6 → σ (1 + 2) m = 0 ∨ σ (1 + 2) m = 1) (hD0 : ∀ K : Nat, (K : Int) < σ b 5 → (K : Int) < V 1 → PlanC σ V b K (vS V K)) : z_Tq l D κ a A yX1_settleTo cX1_settleTo 5 none 12 [.ref (a b), .ref (a 1), .int (zI last), .int (zI lvr)] σ (fun σ' => (σ' b 5 = (if last + 1 < V 1 then (if σ b 5 < last + 1 then last + 1 else σ b 5) else (if σ b 5 < V 1 then V 1 else σ b 5))) ∧ (∀ K : Nat, (K : Int) < σ' b 5 → (K : Int) < V 1 → PlanC σ' V b K (vS V K)) ∧ (∀ c : Nat, (c < 52 ∨ 80 ≤ c ∨ (c < 72 ∧ (c < b ∨ b + 10 ≤ c))) → σ' c = σ c)) := by
  refine z_Tq_of (cc := cX1_settleTo) (maxL := 5) (ret := none) (own := RX1) (lv0 := [some (.ref (a b)), some (.ref (a 1)), some (.int (zI last)), some (.int (zI lvr)), none]) hA (by decide) rfl (Nat.le_of_ble_eq_true rfl) rfl ?_
  intro pg e s mm below meth c X M
  have hv1 := hV.1.2.1
  refine r_aload0 X dX1_settleTo_0 ?_
  refine r_get X 5 dX1_settleTo_1 (z_cPlan hb) in_X1 tw_222 (by omega) rfl rfl (by decide) ?_
  refine r_istore4 X dX1_settleTo_4 ?_
  have L : ∀ (fu : Nat) (i : Int) (σ1 : zSt), ((if V 1 < i then 0 else V 1 - i)) < (fu : Int) → σ b 5 ≤ i → (i = σ b 5 ∨ (i ≤ last + 1 ∧ i ≤ V 1)) → σ1 b 5 = i → (∀ c : Nat, (c < 52 ∨ 80 ≤ c ∨ (c < 72 ∧ (c < b ∨ b + 10 ≤ c))) → σ1 c = σ c) → (∀ K2 : Nat, (K2 : Int) < i → (K2 : Int) < V 1 → PlanC σ1 V b K2 (vS V K2)) → z_G pg l e (z_rm 12) s mm ([.ref (a b), .ref (a 1), .int (zI last), .int (zI lvr)] : List Value).toArray below meth c 5 D κ a A 0 0 (MQ below (z_Qq D κ a A (fun σ' => (σ' b 5 = (if last + 1 < V 1 then (if σ b 5 < last + 1 then last + 1 else σ b 5) else (if σ b 5 < V 1 then V 1 else σ b 5))) ∧ (∀ K : Nat, (K : Int) < σ' b 5 → (K : Int) < V 1 → PlanC σ' V b K (vS V K)) ∧ (∀ c : Nat, (c < 52 ∨ 80 ≤ c ∨ (c < 72 ∧ (c < b ∨ b + 10 ≤ c))) → σ' c = σ c))) ([.ref (a b), .ref (a 1), .int (zI last), .int (zI lvr)] : List Value).toArray s 0 0 A) σ1 [some (.ref (a b)), some (.ref (a 1)), some (.int (zI last)), some (.int (zI lvr)), some (.int (zI i))] 6 [] := by
    intro fu
    induction fu with
    | zero =>
      intro i σ1 hn h0 hi2 hkn hF hD
      split at hn <;> omega
    | succ fu ihL =>
      intro i σ1 hn h0 hi2 hkn hF hD
      refine r_iload4 X dX1_settleTo_6 ?_
      refine r_iload2 X dX1_settleTo_8 ?_
      refine r_icmp_gt (tgt := 43) X dX1_settleTo_9 ⟨⟨by omega, by omega⟩, by omega, by omega⟩ (fun h9 => ?_) (fun h9 => ?_)
      · exact r_vretp X M dX1_settleTo_43 ⟨by rw [hkn]; split <;> split <;> omega, fun K2 h h3 => hD K2 (by omega) h3, hF⟩
      · refine r_iload4 X dX1_settleTo_12 ?_
        refine r_aload1 X dX1_settleTo_14 ?_
        refine r_get X 4 dX1_settleTo_15 (z_cShow (Or.inl rfl)) in_X4 tw_111 (by decide) rfl rfl (by decide) ?_
        refine r_eqi (y := V 1) (by rw [hF 1 (by omega)]; exact hC.1.2.1) ?_
        refine r_icmp_ge (tgt := 43) X dX1_settleTo_18 ⟨⟨by omega, by omega⟩, by omega, by omega⟩ (fun h18 => ?_) (fun h18 => ?_)
        · exact r_vretp X M dX1_settleTo_43 ⟨by rw [hkn]; split <;> split <;> omega, fun K2 h h3 => hD K2 (by omega) h3, hF⟩
        · obtain ⟨K, rfl⟩ : ∃ K : Nat, i = (K : Int) := ⟨i.toNat, by omega⟩
          have hK5 : K < 5 := by omega
          refine r_aload0 X dX1_settleTo_21 ?_
          refine r_aload1 X dX1_settleTo_22 ?_
          refine r_iload4 X dX1_settleTo_23 ?_
          refine r_iload3 X dX1_settleTo_25 ?_
          refine r_callVq (n := 3) X (c_X1_settle l X.2.2.1 _ b hb K hK5 lvr hl V hV (hC.of (fun c hc => hF c (by omega))) (by omega) (by rw [hF (1 + 2) (by omega)]; exact hill) (by rw [hF (1 + 2) (by omega)]; exact hil01) (fun K' e => hD K' (by omega) (by omega))) dX1_settleTo_26 tw_398 tw_400 tw_4 tw_45 tw_401 (z_cPlan hb) (by omega) rfl rfl (Nat.le_of_ble_eq_true rfl) ⟨by decide, by decide⟩ (by decide +kernel) rfl (fun σ2 h2 => ?_)
          have hup : ∀ (K2 : Nat), PlanC σ2 V b K2 (vS V K2) → PlanC (z_up σ2 b 5 ((K : Int) + 1)) V b K2 (vS V K2) := fun K2 q => by
            unfold PlanC
            rw [z_up_c (by omega), z_up_c (by omega), z_up_c (by omega), z_up_c (by omega)]
            exact q
          refine r_aload0 X dX1_settleTo_29 ?_
          refine r_iload4 X dX1_settleTo_30 ?_
          refine r_iconst X dX1_settleTo_32 ?_
          refine r_iadd X dX1_settleTo_33 ?_
          refine r_put (ty := .int) X 5 5 dX1_settleTo_34 (z_cPlan hb) in_X1 tw_222 tyX1 tyX1_ok nmX1 (by omega) rfl (by decide) rfl (by decide +kernel) rfl rfl (fun _ _ => rfl) (Nat.le_of_ble_eq_true rfl) ?_
          refine r_iinc4 X dX1_settleTo_37 ?_
          refine r_goto (tgt := 6) X dX1_settleTo_40 (by decide) ?_
          exact ihL ((K : Int) + 1) _ (by split at hn <;> split <;> omega) (by omega) (Or.inr (by omega)) z_up_s (fun c hc => by rw [z_up_c (by omega), h2.2.1 c (by omega) (by omega) (by omega) (by omega) (by omega)]; exact hF c hc) (fun K2 q1 q2 => by by_cases e : K2 = K; (rw [e]; exact hup K h2.1); exact hup K2 ((hD K2 (by omega) q2).fp hb (by omega) h2.2 e))
  exact L 8 (σ b 5) σ (by split <;> omega) (by omega) (Or.inl rfl) rfl (fun _ _ => rfl) hD0

