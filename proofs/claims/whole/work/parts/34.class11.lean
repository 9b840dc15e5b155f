/-- the plan at b holds what it says it knows -/
def zPl (σ : zSt) (V : zV) (b : Nat) : Prop := (0 ≤ σ b 5 ∧ σ b 5 ≤ 5) ∧ ∀ K : Nat, (K : Int) < σ b 5 → (K : Int) < V 1 → PlanC σ V b K (vS V K)
/-- a query: the show stays -/
def zCq (σ σ' : zSt) (V : zV) : Prop := zShow σ' 1 V ∧ zPl σ' V 52 ∧ (0 ≤ σ' 62 5 ∧ σ' 62 5 ≤ 5) ∧ ∀ c : Nat, (c < 52 ∨ 80 ≤ c) → σ' c = σ c
theorem zCq.refl {σ : zSt} {V : zV} (hS : zShow σ 1 V) (hP : zPl σ V 52) (h62 : 0 ≤ σ 62 5 ∧ σ 62 5 ≤ 5) : zCq σ σ V := ⟨hS, hP, h62, fun _ _ => rfl⟩
theorem zShow.see {σ : zSt} {V : zV} (h : zShow σ 1 V) : cSee σ V := ⟨⟨h.1.1, h.1.2.1, h.1.2.2.1⟩, fun m m0 m1 => (h.2.1 m m0 m1).1, fun k hk => h.2.2 k hk⟩
theorem zShow.ill {σ : zSt} {V : zV} (h : zShow σ 1 V) (hV : v_ok V) : ∀ m : Int, 0 ≤ m → m < V 0 → (V (6 + (2 * m + 1)) = 0 ↔ σ (1 + 2) m = 0 ∧ m ≠ -1) := fun m m0 m1 => by
  have h6 := hV.1.1
  rw [(h.2.1 m m0 (by omega)).2]
  exact ⟨fun q => ⟨q, by omega⟩, fun q => q.1⟩
theorem zShow.i01 {σ : zSt} {V : zV} (h : zShow σ 1 V) (hV : v_ok V) : ∀ m : Int, 0 ≤ m → m < 6 → σ (1 + 2) m = 0 ∨ σ (1 + 2) m = 1 := fun m m0 m1 => by
  have h6 := (hV.2.1 m m0 m1).2
  rw [show 7 + 2 * m = 6 + (2 * m + 1) by omega] at h6
  rw [(h.2.1 m m0 (by omega)).2]
  omega
theorem sett_q {σ σ2 : zSt} {V : zV} (hV : v_ok V) (hS : zShow σ 1 V) (hP : zPl σ V 52) (h62 : 0 ≤ σ 62 5 ∧ σ 62 5 ≤ 5) {last : Int} (hl : -1 ≤ last ∧ last < V 1) (h2 : (σ2 52 5 = (if last + 1 < V 1 then (if σ 52 5 < last + 1 then last + 1 else σ 52 5) else (if σ 52 5 < V 1 then V 1 else σ 52 5))) ∧ (∀ K : Nat, (K : Int) < σ2 52 5 → (K : Int) < V 1 → PlanC σ2 V 52 K (vS V K)) ∧ (∀ c : Nat, (c < 52 ∨ 80 ≤ c ∨ (c < 72 ∧ (c < 52 ∨ 52 + 10 ≤ c))) → σ2 c = σ c)) : zCq σ σ2 V ∧ last < σ2 52 5 := by
  have h5 := hV.1.2.1
  have hk := hP.1
  obtain ⟨a1, a2, a3⟩ := h2
  have hr : (0 ≤ σ2 52 5 ∧ σ2 52 5 ≤ 5) ∧ last < σ2 52 5 := by
    rw [a1]
    split <;> split <;> omega
  exact ⟨⟨hS.of (fun c _ c1 => a3 c (by omega)), ⟨hr.1, a2⟩, by rw [a3 62 (by omega)]; exact h62, fun c hc => a3 c (by omega)⟩, hr.2⟩
theorem zPl.fd {σ : zSt} {V : zV} {b : Nat} (h : zPl σ V b) {k : Int} (k0 : 0 ≤ k) (k1 : k < σ b 5) (k2 : k < V 1) : σ (b + 1) k = vfd V k := by
  have := (h.2 k.toNat (by omega) (by omega)).1
  rwa [show ((k.toNat : Nat) : Int) = k by omega] at this
theorem zPl.gs {σ : zSt} {V : zV} {b : Nat} (h : zPl σ V b) {k : Int} (k0 : 0 ≤ k) (k1 : k < σ b 5) (k2 : k < V 1) (hf : vfd V k = 1) : σ (b + 2) k = (vS V k.toNat).2.1 ∧ σ (b + 3) k = (vS V k.toNat).2.2.1 := by
  have := (h.2 k.toNat (by omega) (by omega)).2.1 hf
  rw [show ((k.toNat : Nat) : Int) = k by omega] at this
  exact ⟨this.1, this.2.1⟩
theorem zPl.gv {σ : zSt} {V : zV} {b : Nat} (h : zPl σ V b) {K : Nat} {m : Int} (k1 : (K : Int) < σ b 5) (k2 : (K : Int) < V 1) (hf : vfd V (K : Int) = 1) (m0 : 0 ≤ m) (m1 : m < V 0) (m2 : V (6 + (2 * m + 1)) = 0) : σ (b + 5 + K) m = sd V (K : Int) m := by
  have hx := ((h.2 K k1 k2).2.1 hf).2.2 (vt V m) (vt_ok m0 m1 m2).1
  rwa [(vt_ok m0 m1 m2).2] at hx
noncomputable def s_ref (V : zV) (k m : Int) : Int := if (0 ≤ k ∧ k < V 1) ∧ 0 ≤ m ∧ m < V 0 then (if V (6 + (2 * m + 1)) = 1 then -5 else if vfd V k = 1 then 0 else -3) else -1
theorem s_ref_in (V : zV) (k m : Int) : -5 ≤ s_ref V k m ∧ s_ref V k m ≤ 0 := by unfold s_ref; (repeat' split) <;> omega
theorem s_ref_0 {V : zV} (hV : v_ok V) {k m : Int} (h : s_ref V k m = 0) : ((0 ≤ k ∧ k < V 1) ∧ 0 ≤ m ∧ m < V 0) ∧ V (6 + (2 * m + 1)) = 0 ∧ vfd V k = 1 := by
  have h6 := hV.1.1
  unfold s_ref at h
  split at h
  · rename_i q
    have h7 := (hV.2.1 m (by omega) (by omega)).2
    rw [show 7 + 2 * m = 6 + (2 * m + 1) by omega] at h7
    split at h
    · omega
    · split at h
      · exact ⟨q, by omega, by assumption⟩
      · omega
  · omega

set_option maxRecDepth 100000 in
set_option maxHeartbeats 4000000 in
theorem c_X4_present (l : Launch) {D : va_G} {κ : Nat → ClassId} {a : Nat → Nat} {A : Nat → Prop} (hA : z_aD a A) (σ : zSt) (V : zV) (hV : v_ok V) (hS : zShow σ 1 V) : z_Ti l D κ a A yX4_present cX4_present 3 (some .int) 0 [.ref (a 1)] σ ((vN V : Int)) (σ) := by
  refine z_Ti_of (cc := cX4_present) (maxL := 3) (ret := (some .int)) (own := RX4) (lv0 := [some (.ref (a 1)), none, none]) hA (by decide) rfl (Nat.le_of_ble_eq_true rfl) rfl ?_
  intro pg e s mm below meth c X M
  obtain ⟨⟨hv0, hv1, hv2, hv3, hv4, hv5⟩, hvm, hvb, hvk, hvc, hvd⟩ := id hV
  obtain ⟨⟨f0, f1, f2, f3, f4, f5⟩, hm, hp⟩ := id hS
  refine r_iconst X dX4_present_0 ?_
  refine r_istore1 X dX4_present_1 ?_
  refine r_iconst X dX4_present_2 ?_
  refine r_istore2 X dX4_present_3 ?_
  have L : ∀ (fu : Nat) (m n1 : Int), (V 0 - m) < (fu : Int) → 0 ≤ m → m ≤ V 0 → n1 = ((vWl V m.toNat).length : Int) → z_G pg l e (z_rm 0) s mm ([.ref (a 1)] : List Value).toArray below meth c 3 D κ a A 0 0 (MQ below (z_Qi D κ a A ((vN V : Int)) (σ)) ([.ref (a 1)] : List Value).toArray s 0 0 A) σ [some (.ref (a 1)), some (.int (zI n1)), some (.int (zI m))] 4 [] := by
    intro fu
    induction fu with
    | zero =>
      intro m n1 hn m0 m1 hn1
      omega
    | succ fu ihL =>
      intro m n1 hn m0 m1 hn1
      refine r_iload2 X dX4_present_4 ?_
      refine r_aload0 X dX4_present_5 ?_
      refine r_get X 2 dX4_present_6 (z_cShow (Or.inl rfl)) in_X4 tw_105 (by decide) rfl rfl (by decide) ?_
      refine r_eqi f0 ?_
      refine r_icmp_ge (tgt := 30) X dX4_present_9 ⟨⟨by omega, by omega⟩, by omega, by omega⟩ (fun h9 => ?_) (fun h9 => ?_)
      · refine r_iload1 X dX4_present_30 ?_
        exact r_iret X M dX4_present_31 (by rw [hn1, show m = V 0 by omega]; rfl) rfl
      · have q1 := hvm m (by omega) (by omega)
        rw [show 7 + 2 * m = 6 + (2 * m + 1) by omega] at q1
        have hsz : vWl V (m + 1).toNat = vWl V m.toNat ++ (if V (6 + (2 * m + 1)) = 0 then [m.toNat] else []) := by
          rw [show (m + 1).toNat = m.toNat + 1 by omega, vWl_s, show ((m.toNat : Nat) : Int) = m by omega]
        refine r_aload0 X dX4_present_12 ?_
        refine r_get X 1 dX4_present_13 (z_cShow (Or.inl rfl)) in_X4 tw_100 (by decide) rfl rfl (by decide) ?_
        refine r_iload2 X dX4_present_16 ?_
        refine r_zald X dX4_present_17 (z_cShow2 (Or.inl rfl)) (by decide) ⟨by omega, by omega⟩ ?_
        refine r_eqi (hm m (by omega) (by omega)).2 ?_
        refine r_if_ne (tgt := 24) X dX4_present_18 ⟨by omega, by omega⟩ (fun h18 => ?_) (fun h18 => ?_)
        · refine r_iinc2 X dX4_present_24 ?_
          refine r_goto (tgt := 4) X dX4_present_27 (by decide) ?_
          first
          | exact ihL (m + 1) _ (by omega) (by omega) (by omega) (by rw [hsz, if_neg (by omega), List.append_nil]; omega)
          | exact ihL (m + 1) _ (by omega) (by omega) (by omega) (by rw [hsz, if_pos (by omega), List.length_append]; simp; omega)
        · refine r_iinc1 X dX4_present_21 ?_
          refine r_iinc2 X dX4_present_24 ?_
          refine r_goto (tgt := 4) X dX4_present_27 (by decide) ?_
          first
          | exact ihL (m + 1) _ (by omega) (by omega) (by omega) (by rw [hsz, if_neg (by omega), List.append_nil]; omega)
          | exact ihL (m + 1) _ (by omega) (by omega) (by omega) (by rw [hsz, if_pos (by omega), List.length_append]; simp; omega)
  exact L 8 0 0 (by omega) (by omega) (by omega) rfl

set_option maxRecDepth 100000 in
set_option maxHeartbeats 4000000 in
theorem c_X5_refusalOf (l : Launch) {D : va_G} {κ : Nat → ClassId} {a : Nat → Nat} {A : Nat → Prop} (hA : z_aD a A) (σ : zSt) (k m : Int) (hk : z_in k) (hmm : z_in m) (V : zV) (hV : v_ok V) (hS : zShow σ 1 V) (hP : zPl σ V 52) (h62 : 0 ≤ σ 62 5 ∧ σ 62 5 ≤ 5) : z_Tp l D κ a A yX5_refusalOf cX5_refusalOf 3 (some .int) 13 [.ref (a 0), .int (zI k), .int (zI m)] σ (fun z σ' => z = s_ref V k m ∧ zCq σ σ' V ∧ (z = 0 → k < σ' 52 5)) := by
  refine z_Tp_of (cc := cX5_refusalOf) (maxL := 3) (ret := (some .int)) (own := RX5) (lv0 := [some (.ref (a 0)), some (.int (zI k)), some (.int (zI m))]) hA (by decide) rfl (Nat.le_of_ble_eq_true rfl) rfl ?_
  intro pg e s mm below meth c X M
  obtain ⟨⟨hv0, hv1, hv2, hv3, hv4, hv5⟩, hvm, hvb, hvk, hvc, hvd⟩ := id hV
  obtain ⟨⟨f0, f1, f2, f3, f4, f5⟩, hm, hp⟩ := id hS
  have hk0 := hP.1
  refine r_aload0 X dX5_refusalOf_0 ?_
  refine r_get X 0 dX5_refusalOf_1 z_c0 in_X5 tw_236 (by decide) rfl rfl (by decide) ?_
  refine r_iload1 X dX5_refusalOf_4 ?_
  refine r_callVi (n := 1) X (c_X4_hasPicture l X.2.2.1 _ 1 (Or.inl rfl) _ ⟨by omega, by omega⟩ ⟨by omega, by omega⟩) dX5_refusalOf_5 tw_293 tw_294 tw_295 tw_41 tw_296 (z_cShow (Or.inl rfl)) (by decide) rfl rfl (Nat.le_of_ble_eq_true rfl) ⟨by decide, by decide⟩ (by decide +kernel) rfl ?_
  refine r_if_eqB (tgt := 22) X dX5_refusalOf_8 (fun h8 => ?_) (fun h8 => ?_)
  · refine r_iconst X dX5_refusalOf_22 ?_
    exact r_iretp X M dX5_refusalOf_23 ⟨by unfold s_ref; (repeat' split) <;> omega, zCq.refl hS hP h62, fun e => by omega⟩
  · refine r_aload0 X dX5_refusalOf_11 ?_
    refine r_get X 0 dX5_refusalOf_12 z_c0 in_X5 tw_236 (by decide) rfl rfl (by decide) ?_
    refine r_iload2 X dX5_refusalOf_15 ?_
    refine r_callVi (n := 1) X (c_X4_hasMarcher l X.2.2.1 _ 1 (Or.inl rfl) _ ⟨by omega, by omega⟩ ⟨by omega, by omega⟩) dX5_refusalOf_16 tw_273 tw_274 tw_275 tw_41 tw_276 (z_cShow (Or.inl rfl)) (by decide) rfl rfl (Nat.le_of_ble_eq_true rfl) ⟨by decide, by decide⟩ (by decide +kernel) rfl ?_
    refine r_if_neB (tgt := 24) X dX5_refusalOf_19 (fun h19 => ?_) (fun h19 => ?_)
    · have qm := hm m (by omega) (by omega)
      have q1 := hvm m (by omega) (by omega)
      rw [show 7 + 2 * m = 6 + (2 * m + 1) by omega] at q1
      refine r_aload0 X dX5_refusalOf_24 ?_
      refine r_get X 0 dX5_refusalOf_25 z_c0 in_X5 tw_236 (by decide) rfl rfl (by decide) ?_
      refine r_get X 1 dX5_refusalOf_28 (z_cShow (Or.inl rfl)) in_X4 tw_102 (by decide) rfl rfl (by decide) ?_
      refine r_iload2 X dX5_refusalOf_31 ?_
      refine r_zald X dX5_refusalOf_32 (z_cShow2 (Or.inl rfl)) (by decide) ⟨by omega, by omega⟩ ?_
      refine r_eqi (y := V (6 + (2 * m + 1))) qm.2 ?_
      refine r_if_eq (tgt := 39) X dX5_refusalOf_33 ⟨by omega, by omega⟩ (fun h33 => ?_) (fun h33 => ?_)
      · refine r_aload0 X dX5_refusalOf_39 ?_
        refine r_get X 4 dX5_refusalOf_40 z_c0 in_X5 tw_240 (by decide) rfl rfl (by decide) ?_
        refine r_aload0 X dX5_refusalOf_43 ?_
        refine r_get X 0 dX5_refusalOf_44 z_c0 in_X5 tw_236 (by decide) rfl rfl (by decide) ?_
        refine r_iload1 X dX5_refusalOf_47 ?_
        refine r_iconst X dX5_refusalOf_48 ?_
        refine r_callVq (n := 3) X (c_X1_settleTo l X.2.2.1 _ 52 (Or.inl rfl) _ ⟨by omega, by omega⟩ (-1) ⟨by omega, by omega⟩ V hV hS.see hP.1 (hS.ill hV) (hS.i01 hV) hP.2) dX5_refusalOf_49 tw_394 tw_395 tw_396 tw_45 tw_397 (z_cPlan (Or.inl rfl)) (by decide) rfl rfl (Nat.le_of_ble_eq_true rfl) ⟨by decide, by decide⟩ (by decide +kernel) rfl (fun σ2 h2 => ?_)
        have hq := sett_q hV hS hP h62 ⟨by omega, by omega⟩ h2
        have hlt := hq.2
        have h01 := vfd_01 hV (k := k) (by omega)
        refine r_aload0 X dX5_refusalOf_52 ?_
        refine r_get X 4 dX5_refusalOf_53 z_c0 in_X5 tw_240 (by decide) rfl rfl (by decide) ?_
        refine r_get X 0 dX5_refusalOf_56 (z_cPlan (Or.inl rfl)) in_X1 tw_215 (by decide) rfl rfl (by decide) ?_
        refine r_iload1 X dX5_refusalOf_59 ?_
        refine r_zald X dX5_refusalOf_60 (z_cPlan1 (Or.inl rfl)) (by decide) ⟨by omega, by omega⟩ ?_
        refine r_eqi (hq.1.2.1.fd (k := k) (by omega) (by omega) (by omega)) ?_
        refine r_if_eq (tgt := 68) X dX5_refusalOf_61 ⟨by omega, by omega⟩ (fun h61 => ?_) (fun h61 => ?_)
        · refine r_bipush X dX5_refusalOf_68 (by decide +kernel) ?_
          exact r_iretp X M dX5_refusalOf_70 ⟨by unfold s_ref; (repeat' split) <;> omega, hq.1, fun _ => hlt⟩
        · refine r_iconst X dX5_refusalOf_64 ?_
          refine r_goto (tgt := 70) X dX5_refusalOf_65 (by decide) ?_
          exact r_iretp X M dX5_refusalOf_70 ⟨by unfold s_ref; (repeat' split) <;> omega, hq.1, fun _ => hlt⟩
      · refine r_bipush X dX5_refusalOf_36 (by decide +kernel) ?_
        exact r_iretp X M dX5_refusalOf_38 ⟨by unfold s_ref; (repeat' split) <;> omega, zCq.refl hS hP h62, fun e => by omega⟩
    · refine r_iconst X dX5_refusalOf_22 ?_
      exact r_iretp X M dX5_refusalOf_23 ⟨by unfold s_ref; (repeat' split) <;> omega, zCq.refl hS hP h62, fun e => by omega⟩

set_option maxRecDepth 100000 in
set_option maxHeartbeats 4000000 in
theorem c_X5_xIn (l : Launch) {D : va_G} {κ : Nat → ClassId} {a : Nat → Nat} {A : Nat → Prop} (hA : z_aD a A) (σ : zSt) (k m d : Int) (hk : 0 ≤ k ∧ k < 5) (hmm : 0 ≤ m ∧ m < 6) (V : zV) (hV : v_ok V) (hC : cSee σ V) (hd : σ (52 + 5 + k.toNat) m = d) (hdr : 0 ≤ d ∧ d < vn V k) : z_Ti l D κ a A yX5_xIn cX5_xIn 3 (some .int) 2 [.ref (a 0), .int (zI k), .int (zI m)] σ (vx V k d) (σ) := by
  refine z_Ti_of (cc := cX5_xIn) (maxL := 3) (ret := (some .int)) (own := RX5) (lv0 := [some (.ref (a 0)), some (.int (zI k)), some (.int (zI m))]) hA (by decide) rfl (Nat.le_of_ble_eq_true rfl) rfl ?_
  intro pg e s mm below meth c X M
  obtain ⟨K, rfl⟩ : ∃ K : Nat, k = (K : Int) := ⟨k.toNat, by omega⟩
  have hK : K < 5 := by omega
  have hpk := hC.2.2 K hK
  have h7 := (vn_in hV (k := (K : Int)) (by omega)).2
  rw [show ((K : Int)).toNat = K by omega] at hd
  refine r_aload0 X dX5_xIn_0 ?_
  refine r_get X 0 dX5_xIn_1 z_c0 in_X5 tw_236 (by decide) rfl rfl (by decide) ?_
  refine r_get X 3 dX5_xIn_4 (z_cShow (Or.inl rfl)) in_X4 tw_108 (by decide) rfl rfl (by decide) ?_
  refine r_iload1 X dX5_xIn_7 ?_
  refine r_aald (k := K) X dX5_xIn_8 (Or.inl rfl) hK ?_
  refine r_aload0 X dX5_xIn_9 ?_
  refine r_get X 4 dX5_xIn_10 z_c0 in_X5 tw_240 (by decide) rfl rfl (by decide) ?_
  refine r_iload1 X dX5_xIn_13 ?_
  refine r_iload2 X dX5_xIn_14 ?_
  refine r_callVi (n := 2) X (c_X1_dotOf l X.2.2.1 _ 52 (Or.inl rfl) K hK _ ⟨by omega, by omega⟩) dX5_xIn_15 tw_465 tw_466 tw_467 tw_45 tw_468 (z_cPlan (Or.inl rfl)) (by decide) rfl rfl (Nat.le_of_ble_eq_true rfl) ⟨by decide, by decide⟩ (by decide +kernel) rfl ?_
  refine r_eqi hd ?_
  refine r_callVi (n := 1) X (c_X0_xOf l X.2.2.1 _ _ (z_pic.mk (Or.inl rfl) hK) _ ⟨by omega, by omega⟩ ⟨by omega, by omega⟩) dX5_xIn_18 tw_377 tw_378 tw_379 tw_42 tw_380 (z_cPic (z_pic.mk (Or.inl rfl) hK)) (Nat.lt_of_le_of_lt (Nat.le_add_right _ 3) (z_pic.lt (z_pic.mk (Or.inl rfl) hK))) rfl rfl (Nat.le_of_ble_eq_true rfl) ⟨by decide, by decide⟩ (by decide +kernel) rfl ?_
  exact r_iret X M dX5_xIn_21 (by rw [if_pos ⟨hdr.1, by omega⟩]; exact (hpk.2.2 d (by omega) (by omega)).1) rfl

set_option maxRecDepth 100000 in
set_option maxHeartbeats 4000000 in
theorem c_X5_yIn (l : Launch) {D : va_G} {κ : Nat → ClassId} {a : Nat → Nat} {A : Nat → Prop} (hA : z_aD a A) (σ : zSt) (k m d : Int) (hk : 0 ≤ k ∧ k < 5) (hmm : 0 ≤ m ∧ m < 6) (V : zV) (hV : v_ok V) (hC : cSee σ V) (hd : σ (52 + 5 + k.toNat) m = d) (hdr : 0 ≤ d ∧ d < vn V k) : z_Ti l D κ a A yX5_yIn cX5_yIn 3 (some .int) 2 [.ref (a 0), .int (zI k), .int (zI m)] σ (vy V k d) (σ) := by
  refine z_Ti_of (cc := cX5_yIn) (maxL := 3) (ret := (some .int)) (own := RX5) (lv0 := [some (.ref (a 0)), some (.int (zI k)), some (.int (zI m))]) hA (by decide) rfl (Nat.le_of_ble_eq_true rfl) rfl ?_
  intro pg e s mm below meth c X M
  obtain ⟨K, rfl⟩ : ∃ K : Nat, k = (K : Int) := ⟨k.toNat, by omega⟩
  have hK : K < 5 := by omega
  have hpk := hC.2.2 K hK
  have h7 := (vn_in hV (k := (K : Int)) (by omega)).2
  rw [show ((K : Int)).toNat = K by omega] at hd
  refine r_aload0 X dX5_yIn_0 ?_
  refine r_get X 0 dX5_yIn_1 z_c0 in_X5 tw_236 (by decide) rfl rfl (by decide) ?_
  refine r_get X 3 dX5_yIn_4 (z_cShow (Or.inl rfl)) in_X4 tw_108 (by decide) rfl rfl (by decide) ?_
  refine r_iload1 X dX5_yIn_7 ?_
  refine r_aald (k := K) X dX5_yIn_8 (Or.inl rfl) hK ?_
  refine r_aload0 X dX5_yIn_9 ?_
  refine r_get X 4 dX5_yIn_10 z_c0 in_X5 tw_240 (by decide) rfl rfl (by decide) ?_
  refine r_iload1 X dX5_yIn_13 ?_
  refine r_iload2 X dX5_yIn_14 ?_
  refine r_callVi (n := 2) X (c_X1_dotOf l X.2.2.1 _ 52 (Or.inl rfl) K hK _ ⟨by omega, by omega⟩) dX5_yIn_15 tw_465 tw_466 tw_467 tw_45 tw_468 (z_cPlan (Or.inl rfl)) (by decide) rfl rfl (Nat.le_of_ble_eq_true rfl) ⟨by decide, by decide⟩ (by decide +kernel) rfl ?_
  refine r_eqi hd ?_
  refine r_callVi (n := 1) X (c_X0_yOf l X.2.2.1 _ _ (z_pic.mk (Or.inl rfl) hK) _ ⟨by omega, by omega⟩ ⟨by omega, by omega⟩) dX5_yIn_18 tw_382 tw_383 tw_384 tw_42 tw_385 (z_cPic (z_pic.mk (Or.inl rfl) hK)) (Nat.lt_of_le_of_lt (Nat.le_add_right _ 3) (z_pic.lt (z_pic.mk (Or.inl rfl) hK))) rfl rfl (Nat.le_of_ble_eq_true rfl) ⟨by decide, by decide⟩ (by decide +kernel) rfl ?_
  exact r_iret X M dX5_yIn_21 (by rw [if_pos ⟨hdr.1, by omega⟩]; exact (hpk.2.2 d (by omega) (by omega)).2.1) rfl

set_option maxRecDepth 100000 in
set_option maxHeartbeats 4000000 in
theorem c_X5_set (l : Launch) {D : va_G} {κ : Nat → ClassId} {a : Nat → Nat} {A : Nat → Prop} (hA : z_aD a A) (σ : zSt) (k m : Int) (hk : z_in k) (hmm : z_in m) (V : zV) (hV : v_ok V) (hS : zShow σ 1 V) (hP : zPl σ V 52) (h62 : 0 ≤ σ 62 5 ∧ σ 62 5 ≤ 5) : z_Tp l D κ a A yX5_set cX5_set 4 (some .int) 14 [.ref (a 0), .int (zI k), .int (zI m)] σ (fun z σ' => z = s_set V k m ∧ zCq σ σ' V) := by
  refine z_Tp_of (cc := cX5_set) (maxL := 4) (ret := (some .int)) (own := RX5) (lv0 := [some (.ref (a 0)), some (.int (zI k)), some (.int (zI m)), none]) hA (by decide) rfl (Nat.le_of_ble_eq_true rfl) rfl ?_
  intro pg e s mm below meth c X M
  obtain ⟨⟨hv0, hv1, hv2, hv3, hv4, hv5⟩, hvm, hvb, hvk, hvc, hvd⟩ := id hV
  obtain ⟨⟨f0, f1, f2, f3, f4, f5⟩, hm, hp⟩ := id hS
  have hk0 := hP.1
  refine r_aload0 X dX5_set_0 ?_
  refine r_iload1 X dX5_set_1 ?_
  refine r_iload2 X dX5_set_2 ?_
  refine r_callVp (n := 2) X (c_X5_refusalOf l X.2.2.1 _ k m hk hmm V hV hS hP h62) dX5_set_3 tw_390 tw_392 tw_3 tw_40 tw_393 z_c0 (by decide) rfl rfl (Nat.le_of_ble_eq_true rfl) ⟨by decide, by decide⟩ (by decide +kernel) rfl (fun z2 σ2 h2 => ?_)
  have hz := h2.1
  have hr := s_ref_in V k m
  refine r_istore3 X dX5_set_6 ?_
  refine r_iload3 X dX5_set_7 ?_
  refine r_if_ge (tgt := 15) X dX5_set_8 ⟨by omega, by omega⟩ (fun h8 => ?_) (fun h8 => ?_)
  · have h0 := s_ref_0 hV (k := k) (m := m) (by omega)
    have hlt := h2.2.2 (by omega)
    have hP2 := h2.2.1.2.1
    have hsd := sd_in hV (k := k) (m := m) (by omega) h0.2.2 (by omega) (by omega) h0.2.1
    obtain ⟨K, rfl⟩ : ∃ K : Nat, k = (K : Int) := ⟨k.toNat, by omega⟩
    have hK : K < 5 := by omega
    refine r_aload0 X dX5_set_15 ?_
    refine r_get X 4 dX5_set_16 z_c0 in_X5 tw_240 (by decide) rfl rfl (by decide) ?_
    refine r_iload1 X dX5_set_19 ?_
    refine r_iload2 X dX5_set_20 ?_
    refine r_callVi (n := 2) X (c_X1_dotOf l X.2.2.1 _ 52 (Or.inl rfl) K hK _ ⟨by omega, by omega⟩) dX5_set_21 tw_465 tw_466 tw_467 tw_45 tw_468 (z_cPlan (Or.inl rfl)) (by decide) rfl rfl (Nat.le_of_ble_eq_true rfl) ⟨by decide, by decide⟩ (by decide +kernel) rfl ?_
    refine r_eqi (hP2.gv (K := K) (m := m) (by omega) (by omega) h0.2.2 (by omega) (by omega) h0.2.1) ?_
    exact r_iretp X M dX5_set_24 ⟨by have hz := h2.1; unfold s_ref at hz; unfold s_set; (repeat' split at hz) <;> (repeat' split) <;> omega, h2.2.1⟩
  · refine r_iload3 X dX5_set_11 ?_
    refine r_goto (tgt := 24) X dX5_set_12 (by decide) ?_
    exact r_iretp X M dX5_set_24 ⟨by have hz := h2.1; unfold s_ref at hz; unfold s_set; (repeat' split at hz) <;> (repeat' split) <;> omega, h2.2.1⟩

set_option maxRecDepth 100000 in
set_option maxHeartbeats 4000000 in
theorem c_X5_steps (l : Launch) {D : va_G} {κ : Nat → ClassId} {a : Nat → Nat} {A : Nat → Prop} (hA : z_aD a A) (σ : zSt) (k w : Int) (hk : z_in k) (hw : z_in w) (V : zV) (hV : v_ok V) (hS : zShow σ 1 V) (hP : zPl σ V 52) (h62 : 0 ≤ σ 62 5 ∧ σ 62 5 ≤ 5) : z_Tp l D κ a A yX5_steps cX5_steps 3 (some .int) 13 [.ref (a 0), .int (zI k), .int (zI w)] σ (fun z σ' => z = s_steps V k w ∧ zCq σ σ' V) := by
  refine z_Tp_of (cc := cX5_steps) (maxL := 3) (ret := (some .int)) (own := RX5) (lv0 := [some (.ref (a 0)), some (.int (zI k)), some (.int (zI w))]) hA (by decide) rfl (Nat.le_of_ble_eq_true rfl) rfl ?_
  intro pg e s mm below meth c X M
  obtain ⟨⟨hv0, hv1, hv2, hv3, hv4, hv5⟩, hvm, hvb, hvk, hvc, hvd⟩ := id hV
  obtain ⟨⟨f0, f1, f2, f3, f4, f5⟩, hm, hp⟩ := id hS
  have hk0 := hP.1
  refine r_aload0 X dX5_steps_0 ?_
  refine r_get X 0 dX5_steps_1 z_c0 in_X5 tw_236 (by decide) rfl rfl (by decide) ?_
  refine r_iload1 X dX5_steps_4 ?_
  refine r_callVi (n := 1) X (c_X4_hasPicture l X.2.2.1 _ 1 (Or.inl rfl) _ ⟨by omega, by omega⟩ ⟨by omega, by omega⟩) dX5_steps_5 tw_293 tw_294 tw_295 tw_41 tw_296 (z_cShow (Or.inl rfl)) (by decide) rfl rfl (Nat.le_of_ble_eq_true rfl) ⟨by decide, by decide⟩ (by decide +kernel) rfl ?_
  refine r_if_eqB (tgt := 20) X dX5_steps_8 (fun h8 => ?_) (fun h8 => ?_)
  · refine r_iconst X dX5_steps_20 ?_
    exact r_iretp X M dX5_steps_21 ⟨by unfold s_steps; (repeat' split) <;> omega, by first | exact hq.1 | exact zCq.refl hS hP h62⟩
  · refine r_iload2 X dX5_steps_11 ?_
    refine r_iconst X dX5_steps_12 ?_
    refine r_iconst X dX5_steps_13 ?_
    refine r_callSi (n := 3) X (c_X5_isOutside l X.2.2.1 _ _ _ _ ⟨by omega, by omega⟩ ⟨by omega, by omega⟩ ⟨by omega, by omega⟩) dX5_steps_14 tw_259 tw_260 tw_40 tw_261 rfl (Nat.le_of_ble_eq_true rfl) ⟨by decide, by decide⟩ (by decide +kernel) rfl ?_
    refine r_if_eqB (tgt := 22) X dX5_steps_17 (fun h17 => ?_) (fun h17 => ?_)
    · refine r_aload0 X dX5_steps_22 ?_
      refine r_get X 4 dX5_steps_23 z_c0 in_X5 tw_240 (by decide) rfl rfl (by decide) ?_
      refine r_aload0 X dX5_steps_26 ?_
      refine r_get X 0 dX5_steps_27 z_c0 in_X5 tw_236 (by decide) rfl rfl (by decide) ?_
      refine r_iload1 X dX5_steps_30 ?_
      refine r_iconst X dX5_steps_31 ?_
      refine r_callVq (n := 3) X (c_X1_settleTo l X.2.2.1 _ 52 (Or.inl rfl) _ ⟨by omega, by omega⟩ (-1) ⟨by omega, by omega⟩ V hV hS.see hP.1 (hS.ill hV) (hS.i01 hV) hP.2) dX5_steps_32 tw_394 tw_395 tw_396 tw_45 tw_397 (z_cPlan (Or.inl rfl)) (by decide) rfl rfl (Nat.le_of_ble_eq_true rfl) ⟨by decide, by decide⟩ (by decide +kernel) rfl (fun σ2 h2 => ?_)
      have hq := sett_q hV hS hP h62 ⟨by omega, by omega⟩ h2
      have hlt := hq.2
      have h01 := vfd_01 hV (k := k) (by omega)
      refine r_aload0 X dX5_steps_35 ?_
      refine r_get X 4 dX5_steps_36 z_c0 in_X5 tw_240 (by decide) rfl rfl (by decide) ?_
      refine r_get X 0 dX5_steps_39 (z_cPlan (Or.inl rfl)) in_X1 tw_215 (by decide) rfl rfl (by decide) ?_
      refine r_iload1 X dX5_steps_42 ?_
      refine r_zald X dX5_steps_43 (z_cPlan1 (Or.inl rfl)) (by decide) ⟨by omega, by omega⟩ ?_
      refine r_eqi (hq.1.2.1.fd (k := k) (by omega) (by omega) (by omega)) ?_
      refine r_if_ne (tgt := 50) X dX5_steps_44 ⟨by omega, by omega⟩ (fun h44 => ?_) (fun h44 => ?_)
      · have hgs := hq.1.2.1.gs (k := k) (by omega) (by omega) (by omega) (show vfd V k = 1 by omega)
        obtain ⟨K, rfl⟩ : ∃ K : Nat, k = (K : Int) := ⟨k.toNat, by omega⟩
        have hK : K < 5 := by omega
        refine r_iload2 X dX5_steps_50 ?_
        refine r_iconst X dX5_steps_51 ?_
        refine r_icmp_ne (tgt := 76) X dX5_steps_52 ⟨⟨by omega, by omega⟩, by omega, by omega⟩ (fun h52 => ?_) (fun h52 => ?_)
        · refine r_iload2 X dX5_steps_76 ?_
          refine r_if_ne (tgt := 92) X dX5_steps_77 ⟨by omega, by omega⟩ (fun h77 => ?_) (fun h77 => ?_)
          · refine r_aload0 X dX5_steps_92 ?_
            refine r_get X 4 dX5_steps_93 z_c0 in_X5 tw_240 (by decide) rfl rfl (by decide) ?_
            refine r_get X 2 dX5_steps_96 (z_cPlan (Or.inl rfl)) in_X1 tw_219 (by decide) rfl rfl (by decide) ?_
            refine r_iload1 X dX5_steps_99 ?_
            refine r_iald X dX5_steps_100 (z_cPlan3 (Or.inl rfl)) (by decide) ⟨by omega, by omega⟩ ?_
            refine r_eqi hgs.2 ?_
            exact r_iretp X M dX5_steps_101 ⟨by unfold s_steps; (repeat' split) <;> omega, by first | exact hq.1 | exact zCq.refl hS hP h62⟩
          · refine r_aload0 X dX5_steps_80 ?_
            refine r_get X 4 dX5_steps_81 z_c0 in_X5 tw_240 (by decide) rfl rfl (by decide) ?_
            refine r_get X 1 dX5_steps_84 (z_cPlan (Or.inl rfl)) in_X1 tw_217 (by decide) rfl rfl (by decide) ?_
            refine r_iload1 X dX5_steps_87 ?_
            refine r_iald X dX5_steps_88 (z_cPlan2 (Or.inl rfl)) (by decide) ⟨by omega, by omega⟩ ?_
            refine r_eqi hgs.1 ?_
            refine r_goto (tgt := 101) X dX5_steps_89 (by decide) ?_
            exact r_iretp X M dX5_steps_101 ⟨by unfold s_steps; (repeat' split) <;> omega, by first | exact hq.1 | exact zCq.refl hS hP h62⟩
        · refine r_aload0 X dX5_steps_55 ?_
          refine r_get X 0 dX5_steps_56 z_c0 in_X5 tw_236 (by decide) rfl rfl (by decide) ?_
          refine r_get X 3 dX5_steps_59 (z_cShow (Or.inl rfl)) in_X4 tw_108 (by decide) rfl rfl (by decide) ?_
          refine r_iload1 X dX5_steps_62 ?_
          refine r_aald (k := K) X dX5_steps_63 (Or.inl rfl) hK ?_
          refine r_get X 3 dX5_steps_64 (z_cPic (z_pic.mk (Or.inl rfl) hK)) in_X0 tw_80 (Nat.lt_of_le_of_lt (Nat.le_add_right _ 3) (z_pic.lt (z_pic.mk (Or.inl rfl) hK))) rfl rfl (by decide) ?_
          refine r_eqi (y := vn V (K : Int)) (hq.1.1.2.2 K hK).1 ?_
          refine r_aload0 X dX5_steps_67 ?_
          refine r_get X 0 dX5_steps_68 z_c0 in_X5 tw_236 (by decide) rfl rfl (by decide) ?_
          refine r_callVi (n := 0) X (c_X4_present l X.2.2.1 _ V hV hq.1.1) dX5_steps_71 tw_473 tw_474 tw_475 tw_41 tw_476 (z_cShow (Or.inl rfl)) (by decide) rfl rfl (Nat.le_of_ble_eq_true rfl) ⟨by decide, by decide⟩ (by decide +kernel) rfl ?_
          refine r_isub X dX5_steps_74 ?_
          exact r_iretp X M dX5_steps_75 ⟨by unfold s_steps; (repeat' split) <;> omega, by first | exact hq.1 | exact zCq.refl hS hP h62⟩
      · refine r_bipush X dX5_steps_47 (by decide +kernel) ?_
        exact r_iretp X M dX5_steps_49 ⟨by unfold s_steps; (repeat' split) <;> omega, by first | exact hq.1 | exact zCq.refl hS hP h62⟩
    · refine r_iconst X dX5_steps_20 ?_
      exact r_iretp X M dX5_steps_21 ⟨by unfold s_steps; (repeat' split) <;> omega, by first | exact hq.1 | exact zCq.refl hS hP h62⟩

theorem gcd_is {x y i : Nat} (h1 : i ∣ x) (h2 : i ∣ y) (hno : ∀ e : Nat, i < e → e ≤ y → ¬ (e ∣ x ∧ e ∣ y)) (hy : 0 < y) : Nat.gcd x y = i := by
  have a1 := Nat.le_of_dvd (Nat.gcd_pos_of_pos_right x hy) (Nat.dvd_gcd h1 h2)
  have a2 := Nat.gcd_le_right x hy
  rcases Nat.lt_or_ge i (Nat.gcd x y) with q | q
  · exact absurd ⟨Nat.gcd_dvd_left x y, Nat.gcd_dvd_right x y⟩ (hno _ q a2)
  · omega
theorem gcd_one {x y : Nat} (hno : ∀ e : Nat, 1 < e → e ≤ y → ¬ (e ∣ x ∧ e ∣ y)) (hy : 0 < y) : Nat.gcd x y = 1 := gcd_is (Nat.one_dvd _) (Nat.one_dvd _) hno hy
set_option maxRecDepth 100000 in
set_option maxHeartbeats 4000000 in
theorem c_X5_cleared (l : Launch) {D : va_G} {κ : Nat → ClassId} {a : Nat → Nat} {A : Nat → Prop} (hA : z_aD a A) (σ : zSt) (pt : Int) (x y : Nat) (hpt : 0 ≤ pt ∧ pt ≤ 1000000) (hx : x < 1000000) (hy : 0 < y ∧ y < 1000000) : z_Ti l D κ a A yX5_cleared cX5_cleared 4 (some .int) 0 [.int (zI pt), .int (zI (x : Int)), .int (zI (y : Int))] σ (pt / ((Nat.gcd x y : Nat) : Int)) (σ) := by
  refine z_Ti_of (cc := cX5_cleared) (maxL := 4) (ret := (some .int)) (own := RX5) (lv0 := [some (.int (zI pt)), some (.int (zI (x : Int))), some (.int (zI (y : Int))), none]) hA (by decide) rfl (Nat.le_of_ble_eq_true rfl) rfl ?_
  intro pg e s mm below meth c X M
  refine r_iload2 X dX5_cleared_0 ?_
  refine r_istore3 X dX5_cleared_1 ?_
  have L : ∀ (fu : Nat) (i : Nat), ((i : Int)) < (fu : Int) → i ≤ y → (∀ e : Nat, i < e → e ≤ y → ¬ (e ∣ x ∧ e ∣ y)) → z_G pg l e (z_rm 0) s mm ([.int (zI pt), .int (zI (x : Int)), .int (zI (y : Int))] : List Value).toArray below meth c 4 D κ a A 0 0 (MQ below (z_Qi D κ a A (pt / ((Nat.gcd x y : Nat) : Int)) (σ)) ([.int (zI pt), .int (zI (x : Int)), .int (zI (y : Int))] : List Value).toArray s 0 0 A) σ [some (.int (zI pt)), some (.int (zI (x : Int))), some (.int (zI (y : Int))), some (.int (zI (i : Int)))] 2 [] := by
    intro fu
    induction fu with
    | zero =>
      intro i hn i1 hno
      omega
    | succ fu ihL =>
      intro i hn i1 hno
      refine r_iload3 X dX5_cleared_2 ?_
      refine r_iconst X dX5_cleared_3 ?_
      refine r_icmp_le (tgt := 29) X dX5_cleared_4 ⟨⟨by omega, by omega⟩, by omega, by omega⟩ (fun h4 => ?_) (fun h4 => ?_)
      · refine r_iload0 X dX5_cleared_29 ?_
        exact r_iret X M dX5_cleared_30 (by rw [gcd_one (fun e he => hno e (by omega)) hy.1]; simp) rfl
      · refine r_iload1 X dX5_cleared_7 ?_
        refine r_iload3 X dX5_cleared_8 ?_
        refine r_irem X dX5_cleared_9 ⟨⟨by omega, by omega⟩, by omega, by omega⟩ ?_
        refine r_if_ne (tgt := 23) X dX5_cleared_10 ⟨by have := Int.emod_nonneg (x : Int) (show (i : Int) ≠ 0 by omega); omega, by have := Int.emod_lt_of_pos (x : Int) (show (0 : Int) < i by omega); omega⟩ (fun h10 => ?_) (fun h10 => ?_)
        · refine r_iinc3 X dX5_cleared_23 ?_
          refine r_goto (tgt := 2) X dX5_cleared_26 (by decide) ?_
          obtain ⟨i', rfl⟩ : ∃ i' : Nat, i = i' + 1 := ⟨i - 1, by omega⟩
          rw [show ((i' + 1 : Nat) : Int) + -1 = (i' : Int) by omega]
          exact ihL i' (by omega) (by omega) (fun e h1 h2 h3 => by
            by_cases q : e = i' + 1
            · subst q
              first
              | exact h10 (by have := Nat.mod_eq_zero_of_dvd h3.1; omega)
              | exact h16 (by have := Nat.mod_eq_zero_of_dvd h3.2; omega)
            · exact hno e (by omega) h2 h3)
        · refine r_iload2 X dX5_cleared_13 ?_
          refine r_iload3 X dX5_cleared_14 ?_
          refine r_irem X dX5_cleared_15 ⟨⟨by omega, by omega⟩, by omega, by omega⟩ ?_
          refine r_if_ne (tgt := 23) X dX5_cleared_16 ⟨by have := Int.emod_nonneg (y : Int) (show (i : Int) ≠ 0 by omega); omega, by have := Int.emod_lt_of_pos (y : Int) (show (0 : Int) < i by omega); omega⟩ (fun h16 => ?_) (fun h16 => ?_)
          · refine r_iinc3 X dX5_cleared_23 ?_
            refine r_goto (tgt := 2) X dX5_cleared_26 (by decide) ?_
            obtain ⟨i', rfl⟩ : ∃ i' : Nat, i = i' + 1 := ⟨i - 1, by omega⟩
            rw [show ((i' + 1 : Nat) : Int) + -1 = (i' : Int) by omega]
            exact ihL i' (by omega) (by omega) (fun e h1 h2 h3 => by
              by_cases q : e = i' + 1
              · subst q
                first
                | exact h10 (by have := Nat.mod_eq_zero_of_dvd h3.1; omega)
                | exact h16 (by have := Nat.mod_eq_zero_of_dvd h3.2; omega)
              · exact hno e (by omega) h2 h3)
          · have hd1 : i ∣ x := Nat.dvd_of_mod_eq_zero (by omega)
            have hd2 : i ∣ y := Nat.dvd_of_mod_eq_zero (by omega)
            refine r_iload0 X dX5_cleared_19 ?_
            refine r_iload3 X dX5_cleared_20 ?_
            refine r_idiv X dX5_cleared_21 ⟨⟨by omega, by omega⟩, by omega, by omega⟩ ?_
            exact r_iret X M dX5_cleared_22 (by rw [gcd_is hd1 hd2 hno hy.1]) rfl
  exact L (y + 1) y (by omega) (by omega) (fun e h1 h2 => by omega)

set_option maxRecDepth 100000 in
set_option maxHeartbeats 4000000 in
theorem c_X5_late (l : Launch) {D : va_G} {κ : Nat → ClassId} {a : Nat → Nat} {A : Nat → Prop} (hA : z_aD a A) (σ : zSt) (k m : Int) (hk : z_in k) (hmm : z_in m) (V : zV) (hV : v_ok V) (hS : zShow σ 1 V) (hP : zPl σ V 52) (h62 : 0 ≤ σ 62 5 ∧ σ 62 5 ≤ 5) : z_Tp l D κ a A yX5_late cX5_late 5 (some .int) 14 [.ref (a 0), .int (zI k), .int (zI m)] σ (fun z σ' => z = s_late V k m ∧ zCq σ σ' V) := by
  refine z_Tp_of (cc := cX5_late) (maxL := 5) (ret := (some .int)) (own := RX5) (lv0 := [some (.ref (a 0)), some (.int (zI k)), some (.int (zI m)), none, none]) hA (by decide) rfl (Nat.le_of_ble_eq_true rfl) rfl ?_
  intro pg e s mm below meth c X M
  obtain ⟨⟨hv0, hv1, hv2, hv3, hv4, hv5⟩, hvm, hvb, hvk, hvc, hvd⟩ := id hV
  obtain ⟨⟨f0, f1, f2, f3, f4, f5⟩, hm, hp⟩ := id hS
  have hk0 := hP.1
  refine r_aload0 X dX5_late_0 ?_
  refine r_iload1 X dX5_late_1 ?_
  refine r_iload2 X dX5_late_2 ?_
  refine r_callVp (n := 2) X (c_X5_refusalOf l X.2.2.1 _ k m hk hmm V hV hS hP h62) dX5_late_3 tw_390 tw_392 tw_3 tw_40 tw_393 z_c0 (by decide) rfl rfl (Nat.le_of_ble_eq_true rfl) ⟨by decide, by decide⟩ (by decide +kernel) rfl (fun z2 σ2 h2 => ?_)
  have hz := h2.1
  have hr := s_ref_in V k m
  refine r_istore3 X dX5_late_6 ?_
  refine r_iload3 X dX5_late_7 ?_
  refine r_if_ge (tgt := 13) X dX5_late_8 ⟨by omega, by omega⟩ (fun h8 => ?_) (fun h8 => ?_)
  · have h0 := s_ref_0 hV (k := k) (m := m) (by omega)
    have hlt := h2.2.2 (by omega)
    have hP2 := h2.2.1.2.1
    have hsd := sd_in hV (k := k) (m := m) (by omega) h0.2.2 (by omega) (by omega) h0.2.1
    have hb := vxy_in hV (k := k) (d := sd V k m) (by omega) (by omega)
    have z1 := z_abs_in (x := vx V k (sd V k m) - V 4) (b := 40) (by omega)
    have z2 := z_abs_in (x := vy V k (sd V k m) - V 5) (b := 40) (by omega)
    have hg1 : σ2 (52 + 5 + k.toNat) m = sd V k m := by
      have := hP2.gv (K := k.toNat) (m := m) (by omega) (by omega) (by rw [show ((k.toNat : Nat) : Int) = k by omega]; exact h0.2.2) (by omega) (by omega) h0.2.1
      rwa [show ((k.toNat : Nat) : Int) = k by omega] at this
    refine r_aload0 X dX5_late_13 ?_
    refine r_iload1 X dX5_late_14 ?_
    refine r_iload2 X dX5_late_15 ?_
    refine r_callVi (n := 2) X (c_X5_xIn l X.2.2.1 _ k m (sd V k m) ⟨by omega, by omega⟩ ⟨by omega, by omega⟩ V hV h2.2.1.1.see hg1 ⟨by omega, by omega⟩) dX5_late_16 tw_481 tw_483 tw_10 tw_40 tw_484 z_c0 (by decide) rfl rfl (Nat.le_of_ble_eq_true rfl) ⟨by decide, by decide⟩ (by decide +kernel) rfl ?_
    refine r_aload0 X dX5_late_19 ?_
    refine r_get X 0 dX5_late_20 z_c0 in_X5 tw_236 (by decide) rfl rfl (by decide) ?_
    refine r_get X 7 dX5_late_23 (z_cShow (Or.inl rfl)) in_X4 tw_119 (by decide) rfl rfl (by decide) ?_
    refine r_eqi (y := V 4) h2.2.1.1.1.2.2.2.2.1 ?_
    refine r_isub X dX5_late_26 ?_
    refine r_mabs X dX5_late_27 ⟨by omega, by omega⟩ tw_457 tw_425 tw_47 tw_426 ⟨by decide, Nat.le_of_ble_eq_true rfl⟩ ?_
    refine r_aload0 X dX5_late_30 ?_
    refine r_iload1 X dX5_late_31 ?_
    refine r_iload2 X dX5_late_32 ?_
    refine r_callVi (n := 2) X (c_X5_yIn l X.2.2.1 _ k m (sd V k m) ⟨by omega, by omega⟩ ⟨by omega, by omega⟩ V hV h2.2.1.1.see hg1 ⟨by omega, by omega⟩) dX5_late_33 tw_485 tw_487 tw_11 tw_40 tw_488 z_c0 (by decide) rfl rfl (Nat.le_of_ble_eq_true rfl) ⟨by decide, by decide⟩ (by decide +kernel) rfl ?_
    refine r_aload0 X dX5_late_36 ?_
    refine r_get X 0 dX5_late_37 z_c0 in_X5 tw_236 (by decide) rfl rfl (by decide) ?_
    refine r_get X 8 dX5_late_40 (z_cShow (Or.inl rfl)) in_X4 tw_121 (by decide) rfl rfl (by decide) ?_
    refine r_eqi (y := V 5) h2.2.1.1.1.2.2.2.2.2 ?_
    refine r_isub X dX5_late_43 ?_
    refine r_mabs X dX5_late_44 ⟨by omega, by omega⟩ tw_457 tw_425 tw_47 tw_426 ⟨by decide, Nat.le_of_ble_eq_true rfl⟩ ?_
    refine r_iadd X dX5_late_47 ?_
    refine r_istore4 X dX5_late_48 ?_
    refine r_aload0 X dX5_late_50 ?_
    refine r_get X 0 dX5_late_51 z_c0 in_X5 tw_236 (by decide) rfl rfl (by decide) ?_
    refine r_get X 6 dX5_late_54 (z_cShow (Or.inl rfl)) in_X4 tw_117 (by decide) rfl rfl (by decide) ?_
    refine r_eqi (y := V 3) h2.2.1.1.1.2.2.2.1 ?_
    refine r_iconst X dX5_late_57 ?_
    refine r_icmp_ge (tgt := 66) X dX5_late_58 ⟨⟨by omega, by omega⟩, by omega, by omega⟩ (fun h58 => ?_) (fun h58 => ?_)
    · refine r_iload4 X dX5_late_66 ?_
      refine r_aload0 X dX5_late_68 ?_
      refine r_get X 0 dX5_late_69 z_c0 in_X5 tw_236 (by decide) rfl rfl (by decide) ?_
      refine r_get X 6 dX5_late_72 (z_cShow (Or.inl rfl)) in_X4 tw_117 (by decide) rfl rfl (by decide) ?_
      refine r_eqi (y := V 3) h2.2.1.1.1.2.2.2.1 ?_
      refine r_idiv X dX5_late_75 ⟨⟨by omega, by omega⟩, by omega, by omega⟩ ?_
      exact r_iretp X M dX5_late_76 ⟨by first | (exfalso; omega) | (unfold s_late; rw [if_pos (by omega), if_neg (by omega), if_pos h0.2.2]), h2.2.1⟩
    · refine r_iload4 X dX5_late_61 ?_
      refine r_goto (tgt := 76) X dX5_late_63 (by decide) ?_
      exact r_iretp X M dX5_late_76 ⟨by first | (exfalso; omega) | (unfold s_late; rw [if_pos (by omega), if_neg (by omega), if_pos h0.2.2]), h2.2.1⟩
  · refine r_iload3 X dX5_late_11 ?_
    exact r_iretp X M dX5_late_12 ⟨by have hz := h2.1; unfold s_ref at hz; unfold s_late; (repeat' split at hz) <;> (repeat' split) <;> omega, h2.2.1⟩

set_option maxRecDepth 100000 in
set_option maxHeartbeats 4000000 in
theorem c_X5_way (l : Launch) {D : va_G} {κ : Nat → ClassId} {a : Nat → Nat} {A : Nat → Prop} (hA : z_aD a A) (σ : zSt) (k m h w : Int) (hk : z_in k) (hmm : z_in m) (hh : z_in h) (hw : z_in w) (V : zV) (hV : v_ok V) (hS : zShow σ 1 V) (hP : zPl σ V 52) (h62 : 0 ≤ σ 62 5 ∧ σ 62 5 ≤ 5) : z_Tp l D κ a A yX5_way cX5_way 12 (some .int) 14 [.ref (a 0), .int (zI k), .int (zI m), .int (zI h), .int (zI w)] σ (fun z σ' => z = s_way V k m h w ∧ zCq σ σ' V) := by
  refine z_Tp_of (cc := cX5_way) (maxL := 12) (ret := (some .int)) (own := RX5) (lv0 := [some (.ref (a 0)), some (.int (zI k)), some (.int (zI m)), some (.int (zI h)), some (.int (zI w)), none, none, none, none, none, none, none]) hA (by decide) rfl (Nat.le_of_ble_eq_true rfl) rfl ?_
  intro pg e s mm below meth c X M
  obtain ⟨⟨hv0, hv1, hv2, hv3, hv4, hv5⟩, hvm, hvb, hvk, hvc, hvd⟩ := id hV
  obtain ⟨⟨f0, f1, f2, f3, f4, f5⟩, hm, hp⟩ := id hS
  have hk0 := hP.1
  refine r_aload0 X dX5_way_0 ?_
  refine r_get X 0 dX5_way_1 z_c0 in_X5 tw_236 (by decide) rfl rfl (by decide) ?_
  refine r_iload1 X dX5_way_4 ?_
  refine r_callVi (n := 1) X (c_X4_hasPicture l X.2.2.1 _ 1 (Or.inl rfl) _ ⟨by omega, by omega⟩ ⟨by omega, by omega⟩) dX5_way_5 tw_293 tw_294 tw_295 tw_41 tw_296 (z_cShow (Or.inl rfl)) (by decide) rfl rfl (Nat.le_of_ble_eq_true rfl) ⟨by decide, by decide⟩ (by decide +kernel) rfl ?_
  refine r_if_eqB (tgt := 25) X dX5_way_8 (fun h8 => ?_) (fun h8 => ?_)
  · refine r_iconst X dX5_way_25 ?_
    exact r_iretp X M dX5_way_26 ⟨by unfold s_way; rw [if_neg (by omega)], zCq.refl hS hP h62⟩
  · refine r_iload1 X dX5_way_11 ?_
    refine r_if_eq (tgt := 25) X dX5_way_12 ⟨by omega, by omega⟩ (fun h12 => ?_) (fun h12 => ?_)
    · refine r_iconst X dX5_way_25 ?_
      exact r_iretp X M dX5_way_26 ⟨by unfold s_way; rw [if_neg (by omega)], zCq.refl hS hP h62⟩
    · refine r_iload4 X dX5_way_15 ?_
      refine r_iconst X dX5_way_17 ?_
      refine r_iconst X dX5_way_18 ?_
      refine r_callSi (n := 3) X (c_X5_isOutside l X.2.2.1 _ _ _ _ ⟨by omega, by omega⟩ ⟨by omega, by omega⟩ ⟨by omega, by omega⟩) dX5_way_19 tw_259 tw_260 tw_40 tw_261 rfl (Nat.le_of_ble_eq_true rfl) ⟨by decide, by decide⟩ (by decide +kernel) rfl ?_
      refine r_if_eqB (tgt := 27) X dX5_way_22 (fun h22 => ?_) (fun h22 => ?_)
      · obtain ⟨K, hK9⟩ : ∃ K : Nat, k = (K : Int) := ⟨k.toNat, by omega⟩
        have hK : K < 5 := by omega
        have hcc := vn_in hV (k := k) (by omega)
        have hc1 : 1 ≤ vc V k := hvc k (by omega) (by omega)
        have hcr : σ (1 + 4 + 4 * K) 4 = vc V k := by rw [hK9]; exact (hp K hK).2.1 (by omega)
        refine r_iconst X dX5_way_27 ?_
        refine r_aload0 X dX5_way_28 ?_
        refine r_get X 0 dX5_way_29 z_c0 in_X5 tw_236 (by decide) rfl rfl (by decide) ?_
        refine r_get X 3 dX5_way_32 (z_cShow (Or.inl rfl)) in_X4 tw_108 (by decide) rfl rfl (by decide) ?_
        refine r_iload1 X dX5_way_35 ?_
        refine r_eqi hK9 ?_
        refine r_aald (k := K) X dX5_way_36 (Or.inl rfl) hK ?_
        refine r_get X 4 dX5_way_37 (z_cPic (z_pic.mk (Or.inl rfl) hK)) in_X0 tw_83 (Nat.lt_of_le_of_lt (Nat.le_add_right _ 3) (z_pic.lt (z_pic.mk (Or.inl rfl) hK))) rfl rfl (by decide) ?_
        refine r_eqi hcr ?_
        refine r_imul X dX5_way_40 ?_
        refine r_istore5 X dX5_way_41 ?_
        refine r_iload3 X dX5_way_43 ?_
        refine r_iconst X dX5_way_44 ?_
        refine r_iload5 X dX5_way_45 ?_
        refine r_callSi (n := 3) X (c_X5_isOutside l X.2.2.1 _ _ _ _ ⟨by omega, by omega⟩ ⟨by omega, by omega⟩ ⟨by omega, by omega⟩) dX5_way_47 tw_259 tw_260 tw_40 tw_261 rfl (Nat.le_of_ble_eq_true rfl) ⟨by decide, by decide⟩ (by decide +kernel) rfl ?_
        refine r_if_eqB (tgt := 55) X dX5_way_50 (fun h50 => ?_) (fun h50 => ?_)
        · refine r_aload0 X dX5_way_55 ?_
          refine r_iload1 X dX5_way_56 ?_
          refine r_iload2 X dX5_way_57 ?_
          refine r_callVp (n := 2) X (c_X5_refusalOf l X.2.2.1 _ k m hk hmm V hV hS hP h62) dX5_way_58 tw_390 tw_392 tw_3 tw_40 tw_393 z_c0 (by decide) rfl rfl (Nat.le_of_ble_eq_true rfl) ⟨by decide, by decide⟩ (by decide +kernel) rfl (fun z2 σ2 h2 => ?_)
          have hz := h2.1
          have hr := s_ref_in V k m
          refine r_istore6 X dX5_way_61 ?_
          refine r_iload6 X dX5_way_63 ?_
          refine r_if_ge (tgt := 71) X dX5_way_65 ⟨by omega, by omega⟩ (fun h65 => ?_) (fun h65 => ?_)
          · have h0 := s_ref_0 hV (k := k) (m := m) (by omega)
            have hlt := h2.2.2 (by omega)
            have hP2 := h2.2.1.2.1
            have hsd := sd_in hV (k := k) (m := m) (by omega) h0.2.2 (by omega) (by omega) h0.2.1
            have hfp := vfd_pred (V := V) (k := k) (by omega) h0.2.2
            have s3 := sd_in hV (k := k - 1) (m := m) (by omega) hfp (by omega) (by omega) h0.2.1
            have b1 := vxy_in hV (k := k) (d := sd V k m) (by omega) (by omega)
            have b3 := vxy_in hV (k := k - 1) (d := sd V (k - 1) m) (by omega) (by omega)
            have hwA : 0 ≤ wA V k m w ∧ wA V k m w ≤ 40 := by unfold wA; split <;> omega
            have hwB : 0 ≤ wB V k m w ∧ wB V k m w ≤ 40 := by unfold wB; split <;> omega
            have hup := wUp_in (V := V) (k := k) (m := m) (h := h) (w := w) (by omega) (by omega) hwA hwB
            have hg1 : σ2 (52 + 5 + (k).toNat) m = sd V (k) m := by
              have := hP2.gv (K := (k).toNat) (m := m) (by omega) (by omega) (by rw [show (((k).toNat : Nat) : Int) = k by omega]; exact h0.2.2) (by omega) (by omega) (by omega)
              rwa [show (((k).toNat : Nat) : Int) = k by omega] at this
            have hg0 : σ2 (52 + 5 + (k - 1).toNat) m = sd V (k - 1) m := by
              have := hP2.gv (K := (k - 1).toNat) (m := m) (by omega) (by omega) (by rw [show (((k - 1).toNat : Nat) : Int) = k - 1 by omega]; exact hfp) (by omega) (by omega) (by omega)
              rwa [show (((k - 1).toNat : Nat) : Int) = k - 1 by omega] at this
            refine r_iload4 X dX5_way_71 ?_
            refine r_iconst X dX5_way_73 ?_
            refine r_icmp_ge (tgt := 81) X dX5_way_74 ⟨⟨by omega, by omega⟩, by omega, by omega⟩ (fun h74 => ?_) (fun h74 => ?_)
            · refine r_iconst X dX5_way_81 ?_
              refine r_istore7 X dX5_way_82 ?_
              refine r_iload7 X dX5_way_84 ?_
              refine r_if_eq (tgt := 100) X dX5_way_86 ⟨by omega, by omega⟩ (fun h86 => ?_) (fun h86 => ?_)
              · refine r_aload0 X dX5_way_100 ?_
                refine r_iload1 X dX5_way_101 ?_
                refine r_iconst X dX5_way_102 ?_
                refine r_isub X dX5_way_103 ?_
                refine r_iload2 X dX5_way_104 ?_
                refine r_callVi (n := 2) X (c_X5_yIn l X.2.2.1 _ (k - 1) m (sd V (k - 1) m) ⟨by omega, by omega⟩ ⟨by omega, by omega⟩ V hV h2.2.1.1.see hg0 ⟨by omega, by omega⟩) dX5_way_105 tw_485 tw_487 tw_11 tw_40 tw_488 z_c0 (by decide) rfl rfl (Nat.le_of_ble_eq_true rfl) ⟨by decide, by decide⟩ (by decide +kernel) rfl ?_
                refine r_eqi (y := wA V k m w) (by unfold wA; first | (rw [if_pos (by omega)]; done) | (rw [if_neg (by omega)]; done)) ?_
                refine r_istore8 X dX5_way_108 ?_
                refine r_iload7 X dX5_way_110 ?_
                refine r_if_eq (tgt := 124) X dX5_way_112 ⟨by omega, by omega⟩ (fun h112 => ?_) (fun h112 => ?_)
                · refine r_aload0 X dX5_way_124 ?_
                  refine r_iload1 X dX5_way_125 ?_
                  refine r_iload2 X dX5_way_126 ?_
                  refine r_callVi (n := 2) X (c_X5_yIn l X.2.2.1 _ k m (sd V k m) ⟨by omega, by omega⟩ ⟨by omega, by omega⟩ V hV h2.2.1.1.see hg1 ⟨by omega, by omega⟩) dX5_way_127 tw_485 tw_487 tw_11 tw_40 tw_488 z_c0 (by decide) rfl rfl (Nat.le_of_ble_eq_true rfl) ⟨by decide, by decide⟩ (by decide +kernel) rfl ?_
                  refine r_eqi (y := wB V k m w) (by unfold wB; first | (rw [if_pos (by omega)]; done) | (rw [if_neg (by omega)]; done)) ?_
                  refine r_istore9 X dX5_way_130 ?_
                  refine r_iload8 X dX5_way_132 ?_
                  refine r_iload5 X dX5_way_134 ?_
                  refine r_iload3 X dX5_way_136 ?_
                  refine r_isub X dX5_way_137 ?_
                  refine r_imul X dX5_way_138 ?_
                  refine r_iload9 X dX5_way_139 ?_
                  refine r_iload3 X dX5_way_141 ?_
                  refine r_imul X dX5_way_142 ?_
                  refine r_iadd X dX5_way_143 ?_
                  refine r_eqi (y := (((wUp V k m h w).toNat : Nat) : Int)) (by omega) ?_
                  refine r_istore10 X dX5_way_144 ?_
                  refine r_iload4 X dX5_way_146 ?_
                  refine r_if_eq (tgt := 157) X dX5_way_148 ⟨by omega, by omega⟩ (fun h148 => ?_) (fun h148 => ?_)
                  · refine r_iconst X dX5_way_157 ?_
                    refine r_goto (tgt := 162) X dX5_way_158 (by decide) ?_
                    refine r_istore11 X dX5_way_162 ?_
                    refine r_iload11 X dX5_way_164 ?_
                    refine r_if_eq (tgt := 174) X dX5_way_166 ⟨by omega, by omega⟩ (fun h166 => ?_) (fun h166 => ?_)
                    · refine r_iload5 X dX5_way_174 ?_
                      refine r_iload10 X dX5_way_176 ?_
                      refine r_iload5 X dX5_way_178 ?_
                      refine r_eqi (y := (((2 * vc V k).toNat : Nat) : Int)) (by omega) ?_
                      refine r_callSi (n := 3) X (c_X5_cleared l X.2.2.1 _ _ (wUp V k m h w).toNat (2 * vc V k).toNat ⟨by omega, by omega⟩ (by omega) ⟨by omega, by omega⟩) dX5_way_180 tw_489 tw_490 tw_40 tw_491 rfl (Nat.le_of_ble_eq_true rfl) ⟨by decide, by decide⟩ (by decide +kernel) rfl ?_
                      exact r_iretp X M dX5_way_183 ⟨by unfold s_way; rw [if_pos (by omega), if_neg (by omega), if_pos h0.2.2]; first | (rw [if_pos (by omega), show (((wUp V k m h w).toNat : Nat) : Int) = wUp V k m h w by omega]; done) | (rw [if_neg (by omega)]; done), h2.2.1⟩
                    · refine r_iload10 X dX5_way_169 ?_
                      refine r_goto (tgt := 176) X dX5_way_171 (by decide) ?_
                      refine r_iload10 X dX5_way_176 ?_
                      refine r_iload5 X dX5_way_178 ?_
                      refine r_eqi (y := (((2 * vc V k).toNat : Nat) : Int)) (by omega) ?_
                      refine r_callSi (n := 3) X (c_X5_cleared l X.2.2.1 _ _ (wUp V k m h w).toNat (2 * vc V k).toNat ⟨by omega, by omega⟩ (by omega) ⟨by omega, by omega⟩) dX5_way_180 tw_489 tw_490 tw_40 tw_491 rfl (Nat.le_of_ble_eq_true rfl) ⟨by decide, by decide⟩ (by decide +kernel) rfl ?_
                      exact r_iretp X M dX5_way_183 ⟨by unfold s_way; rw [if_pos (by omega), if_neg (by omega), if_pos h0.2.2]; first | (rw [if_pos (by omega), show (((wUp V k m h w).toNat : Nat) : Int) = wUp V k m h w by omega]; done) | (rw [if_neg (by omega)]; done), h2.2.1⟩
                  · refine r_iload4 X dX5_way_151 ?_
                    refine r_iconst X dX5_way_153 ?_
                    refine r_icmp_ne (tgt := 161) X dX5_way_154 ⟨⟨by omega, by omega⟩, by omega, by omega⟩ (fun h154 => ?_) (fun h154 => ?_)
                    · refine r_iconst X dX5_way_161 ?_
                      refine r_istore11 X dX5_way_162 ?_
                      refine r_iload11 X dX5_way_164 ?_
                      refine r_if_eq (tgt := 174) X dX5_way_166 ⟨by omega, by omega⟩ (fun h166 => ?_) (fun h166 => ?_)
                      · refine r_iload5 X dX5_way_174 ?_
                        refine r_iload10 X dX5_way_176 ?_
                        refine r_iload5 X dX5_way_178 ?_
                        refine r_eqi (y := (((2 * vc V k).toNat : Nat) : Int)) (by omega) ?_
                        refine r_callSi (n := 3) X (c_X5_cleared l X.2.2.1 _ _ (wUp V k m h w).toNat (2 * vc V k).toNat ⟨by omega, by omega⟩ (by omega) ⟨by omega, by omega⟩) dX5_way_180 tw_489 tw_490 tw_40 tw_491 rfl (Nat.le_of_ble_eq_true rfl) ⟨by decide, by decide⟩ (by decide +kernel) rfl ?_
                        exact r_iretp X M dX5_way_183 ⟨by unfold s_way; rw [if_pos (by omega), if_neg (by omega), if_pos h0.2.2]; first | (rw [if_pos (by omega), show (((wUp V k m h w).toNat : Nat) : Int) = wUp V k m h w by omega]; done) | (rw [if_neg (by omega)]; done), h2.2.1⟩
                      · refine r_iload10 X dX5_way_169 ?_
                        refine r_goto (tgt := 176) X dX5_way_171 (by decide) ?_
                        refine r_iload10 X dX5_way_176 ?_
                        refine r_iload5 X dX5_way_178 ?_
                        refine r_eqi (y := (((2 * vc V k).toNat : Nat) : Int)) (by omega) ?_
                        refine r_callSi (n := 3) X (c_X5_cleared l X.2.2.1 _ _ (wUp V k m h w).toNat (2 * vc V k).toNat ⟨by omega, by omega⟩ (by omega) ⟨by omega, by omega⟩) dX5_way_180 tw_489 tw_490 tw_40 tw_491 rfl (Nat.le_of_ble_eq_true rfl) ⟨by decide, by decide⟩ (by decide +kernel) rfl ?_
                        exact r_iretp X M dX5_way_183 ⟨by unfold s_way; rw [if_pos (by omega), if_neg (by omega), if_pos h0.2.2]; first | (rw [if_pos (by omega), show (((wUp V k m h w).toNat : Nat) : Int) = wUp V k m h w by omega]; done) | (rw [if_neg (by omega)]; done), h2.2.1⟩
                    · refine r_iconst X dX5_way_157 ?_
                      refine r_goto (tgt := 162) X dX5_way_158 (by decide) ?_
                      refine r_istore11 X dX5_way_162 ?_
                      refine r_iload11 X dX5_way_164 ?_
                      refine r_if_eq (tgt := 174) X dX5_way_166 ⟨by omega, by omega⟩ (fun h166 => ?_) (fun h166 => ?_)
                      · refine r_iload5 X dX5_way_174 ?_
                        refine r_iload10 X dX5_way_176 ?_
                        refine r_iload5 X dX5_way_178 ?_
                        refine r_eqi (y := (((2 * vc V k).toNat : Nat) : Int)) (by omega) ?_
                        refine r_callSi (n := 3) X (c_X5_cleared l X.2.2.1 _ _ (wUp V k m h w).toNat (2 * vc V k).toNat ⟨by omega, by omega⟩ (by omega) ⟨by omega, by omega⟩) dX5_way_180 tw_489 tw_490 tw_40 tw_491 rfl (Nat.le_of_ble_eq_true rfl) ⟨by decide, by decide⟩ (by decide +kernel) rfl ?_
                        exact r_iretp X M dX5_way_183 ⟨by unfold s_way; rw [if_pos (by omega), if_neg (by omega), if_pos h0.2.2]; first | (rw [if_pos (by omega), show (((wUp V k m h w).toNat : Nat) : Int) = wUp V k m h w by omega]; done) | (rw [if_neg (by omega)]; done), h2.2.1⟩
                      · refine r_iload10 X dX5_way_169 ?_
                        refine r_goto (tgt := 176) X dX5_way_171 (by decide) ?_
                        refine r_iload10 X dX5_way_176 ?_
                        refine r_iload5 X dX5_way_178 ?_
                        refine r_eqi (y := (((2 * vc V k).toNat : Nat) : Int)) (by omega) ?_
                        refine r_callSi (n := 3) X (c_X5_cleared l X.2.2.1 _ _ (wUp V k m h w).toNat (2 * vc V k).toNat ⟨by omega, by omega⟩ (by omega) ⟨by omega, by omega⟩) dX5_way_180 tw_489 tw_490 tw_40 tw_491 rfl (Nat.le_of_ble_eq_true rfl) ⟨by decide, by decide⟩ (by decide +kernel) rfl ?_
                        exact r_iretp X M dX5_way_183 ⟨by unfold s_way; rw [if_pos (by omega), if_neg (by omega), if_pos h0.2.2]; first | (rw [if_pos (by omega), show (((wUp V k m h w).toNat : Nat) : Int) = wUp V k m h w by omega]; done) | (rw [if_neg (by omega)]; done), h2.2.1⟩
                · refine r_aload0 X dX5_way_115 ?_
                  refine r_iload1 X dX5_way_116 ?_
                  refine r_iload2 X dX5_way_117 ?_
                  refine r_callVi (n := 2) X (c_X5_xIn l X.2.2.1 _ k m (sd V k m) ⟨by omega, by omega⟩ ⟨by omega, by omega⟩ V hV h2.2.1.1.see hg1 ⟨by omega, by omega⟩) dX5_way_118 tw_481 tw_483 tw_10 tw_40 tw_484 z_c0 (by decide) rfl rfl (Nat.le_of_ble_eq_true rfl) ⟨by decide, by decide⟩ (by decide +kernel) rfl ?_
                  refine r_goto (tgt := 130) X dX5_way_121 (by decide) ?_
                  refine r_eqi (y := wB V k m w) (by unfold wB; first | (rw [if_pos (by omega)]; done) | (rw [if_neg (by omega)]; done)) ?_
                  refine r_istore9 X dX5_way_130 ?_
                  refine r_iload8 X dX5_way_132 ?_
                  refine r_iload5 X dX5_way_134 ?_
                  refine r_iload3 X dX5_way_136 ?_
                  refine r_isub X dX5_way_137 ?_
                  refine r_imul X dX5_way_138 ?_
                  refine r_iload9 X dX5_way_139 ?_
                  refine r_iload3 X dX5_way_141 ?_
                  refine r_imul X dX5_way_142 ?_
                  refine r_iadd X dX5_way_143 ?_
                  refine r_eqi (y := (((wUp V k m h w).toNat : Nat) : Int)) (by omega) ?_
                  refine r_istore10 X dX5_way_144 ?_
                  refine r_iload4 X dX5_way_146 ?_
                  refine r_if_eq (tgt := 157) X dX5_way_148 ⟨by omega, by omega⟩ (fun h148 => ?_) (fun h148 => ?_)
                  · refine r_iconst X dX5_way_157 ?_
                    refine r_goto (tgt := 162) X dX5_way_158 (by decide) ?_
                    refine r_istore11 X dX5_way_162 ?_
                    refine r_iload11 X dX5_way_164 ?_
                    refine r_if_eq (tgt := 174) X dX5_way_166 ⟨by omega, by omega⟩ (fun h166 => ?_) (fun h166 => ?_)
                    · refine r_iload5 X dX5_way_174 ?_
                      refine r_iload10 X dX5_way_176 ?_
                      refine r_iload5 X dX5_way_178 ?_
                      refine r_eqi (y := (((2 * vc V k).toNat : Nat) : Int)) (by omega) ?_
                      refine r_callSi (n := 3) X (c_X5_cleared l X.2.2.1 _ _ (wUp V k m h w).toNat (2 * vc V k).toNat ⟨by omega, by omega⟩ (by omega) ⟨by omega, by omega⟩) dX5_way_180 tw_489 tw_490 tw_40 tw_491 rfl (Nat.le_of_ble_eq_true rfl) ⟨by decide, by decide⟩ (by decide +kernel) rfl ?_
                      exact r_iretp X M dX5_way_183 ⟨by unfold s_way; rw [if_pos (by omega), if_neg (by omega), if_pos h0.2.2]; first | (rw [if_pos (by omega), show (((wUp V k m h w).toNat : Nat) : Int) = wUp V k m h w by omega]; done) | (rw [if_neg (by omega)]; done), h2.2.1⟩
                    · refine r_iload10 X dX5_way_169 ?_
                      refine r_goto (tgt := 176) X dX5_way_171 (by decide) ?_
                      refine r_iload10 X dX5_way_176 ?_
                      refine r_iload5 X dX5_way_178 ?_
                      refine r_eqi (y := (((2 * vc V k).toNat : Nat) : Int)) (by omega) ?_
                      refine r_callSi (n := 3) X (c_X5_cleared l X.2.2.1 _ _ (wUp V k m h w).toNat (2 * vc V k).toNat ⟨by omega, by omega⟩ (by omega) ⟨by omega, by omega⟩) dX5_way_180 tw_489 tw_490 tw_40 tw_491 rfl (Nat.le_of_ble_eq_true rfl) ⟨by decide, by decide⟩ (by decide +kernel) rfl ?_
                      exact r_iretp X M dX5_way_183 ⟨by unfold s_way; rw [if_pos (by omega), if_neg (by omega), if_pos h0.2.2]; first | (rw [if_pos (by omega), show (((wUp V k m h w).toNat : Nat) : Int) = wUp V k m h w by omega]; done) | (rw [if_neg (by omega)]; done), h2.2.1⟩
                  · refine r_iload4 X dX5_way_151 ?_
                    refine r_iconst X dX5_way_153 ?_
                    refine r_icmp_ne (tgt := 161) X dX5_way_154 ⟨⟨by omega, by omega⟩, by omega, by omega⟩ (fun h154 => ?_) (fun h154 => ?_)
                    · refine r_iconst X dX5_way_161 ?_
                      refine r_istore11 X dX5_way_162 ?_
                      refine r_iload11 X dX5_way_164 ?_
                      refine r_if_eq (tgt := 174) X dX5_way_166 ⟨by omega, by omega⟩ (fun h166 => ?_) (fun h166 => ?_)
                      · refine r_iload5 X dX5_way_174 ?_
                        refine r_iload10 X dX5_way_176 ?_
                        refine r_iload5 X dX5_way_178 ?_
                        refine r_eqi (y := (((2 * vc V k).toNat : Nat) : Int)) (by omega) ?_
                        refine r_callSi (n := 3) X (c_X5_cleared l X.2.2.1 _ _ (wUp V k m h w).toNat (2 * vc V k).toNat ⟨by omega, by omega⟩ (by omega) ⟨by omega, by omega⟩) dX5_way_180 tw_489 tw_490 tw_40 tw_491 rfl (Nat.le_of_ble_eq_true rfl) ⟨by decide, by decide⟩ (by decide +kernel) rfl ?_
                        exact r_iretp X M dX5_way_183 ⟨by unfold s_way; rw [if_pos (by omega), if_neg (by omega), if_pos h0.2.2]; first | (rw [if_pos (by omega), show (((wUp V k m h w).toNat : Nat) : Int) = wUp V k m h w by omega]; done) | (rw [if_neg (by omega)]; done), h2.2.1⟩
                      · refine r_iload10 X dX5_way_169 ?_
                        refine r_goto (tgt := 176) X dX5_way_171 (by decide) ?_
                        refine r_iload10 X dX5_way_176 ?_
                        refine r_iload5 X dX5_way_178 ?_
                        refine r_eqi (y := (((2 * vc V k).toNat : Nat) : Int)) (by omega) ?_
                        refine r_callSi (n := 3) X (c_X5_cleared l X.2.2.1 _ _ (wUp V k m h w).toNat (2 * vc V k).toNat ⟨by omega, by omega⟩ (by omega) ⟨by omega, by omega⟩) dX5_way_180 tw_489 tw_490 tw_40 tw_491 rfl (Nat.le_of_ble_eq_true rfl) ⟨by decide, by decide⟩ (by decide +kernel) rfl ?_
                        exact r_iretp X M dX5_way_183 ⟨by unfold s_way; rw [if_pos (by omega), if_neg (by omega), if_pos h0.2.2]; first | (rw [if_pos (by omega), show (((wUp V k m h w).toNat : Nat) : Int) = wUp V k m h w by omega]; done) | (rw [if_neg (by omega)]; done), h2.2.1⟩
                    · refine r_iconst X dX5_way_157 ?_
                      refine r_goto (tgt := 162) X dX5_way_158 (by decide) ?_
                      refine r_istore11 X dX5_way_162 ?_
                      refine r_iload11 X dX5_way_164 ?_
                      refine r_if_eq (tgt := 174) X dX5_way_166 ⟨by omega, by omega⟩ (fun h166 => ?_) (fun h166 => ?_)
                      · refine r_iload5 X dX5_way_174 ?_
                        refine r_iload10 X dX5_way_176 ?_
                        refine r_iload5 X dX5_way_178 ?_
                        refine r_eqi (y := (((2 * vc V k).toNat : Nat) : Int)) (by omega) ?_
                        refine r_callSi (n := 3) X (c_X5_cleared l X.2.2.1 _ _ (wUp V k m h w).toNat (2 * vc V k).toNat ⟨by omega, by omega⟩ (by omega) ⟨by omega, by omega⟩) dX5_way_180 tw_489 tw_490 tw_40 tw_491 rfl (Nat.le_of_ble_eq_true rfl) ⟨by decide, by decide⟩ (by decide +kernel) rfl ?_
                        exact r_iretp X M dX5_way_183 ⟨by unfold s_way; rw [if_pos (by omega), if_neg (by omega), if_pos h0.2.2]; first | (rw [if_pos (by omega), show (((wUp V k m h w).toNat : Nat) : Int) = wUp V k m h w by omega]; done) | (rw [if_neg (by omega)]; done), h2.2.1⟩
                      · refine r_iload10 X dX5_way_169 ?_
                        refine r_goto (tgt := 176) X dX5_way_171 (by decide) ?_
                        refine r_iload10 X dX5_way_176 ?_
                        refine r_iload5 X dX5_way_178 ?_
                        refine r_eqi (y := (((2 * vc V k).toNat : Nat) : Int)) (by omega) ?_
                        refine r_callSi (n := 3) X (c_X5_cleared l X.2.2.1 _ _ (wUp V k m h w).toNat (2 * vc V k).toNat ⟨by omega, by omega⟩ (by omega) ⟨by omega, by omega⟩) dX5_way_180 tw_489 tw_490 tw_40 tw_491 rfl (Nat.le_of_ble_eq_true rfl) ⟨by decide, by decide⟩ (by decide +kernel) rfl ?_
                        exact r_iretp X M dX5_way_183 ⟨by unfold s_way; rw [if_pos (by omega), if_neg (by omega), if_pos h0.2.2]; first | (rw [if_pos (by omega), show (((wUp V k m h w).toNat : Nat) : Int) = wUp V k m h w by omega]; done) | (rw [if_neg (by omega)]; done), h2.2.1⟩
              · refine r_aload0 X dX5_way_89 ?_
                refine r_iload1 X dX5_way_90 ?_
                refine r_iconst X dX5_way_91 ?_
                refine r_isub X dX5_way_92 ?_
                refine r_iload2 X dX5_way_93 ?_
                refine r_callVi (n := 2) X (c_X5_xIn l X.2.2.1 _ (k - 1) m (sd V (k - 1) m) ⟨by omega, by omega⟩ ⟨by omega, by omega⟩ V hV h2.2.1.1.see hg0 ⟨by omega, by omega⟩) dX5_way_94 tw_481 tw_483 tw_10 tw_40 tw_484 z_c0 (by decide) rfl rfl (Nat.le_of_ble_eq_true rfl) ⟨by decide, by decide⟩ (by decide +kernel) rfl ?_
                refine r_goto (tgt := 108) X dX5_way_97 (by decide) ?_
                refine r_eqi (y := wA V k m w) (by unfold wA; first | (rw [if_pos (by omega)]; done) | (rw [if_neg (by omega)]; done)) ?_
                refine r_istore8 X dX5_way_108 ?_
                refine r_iload7 X dX5_way_110 ?_
                refine r_if_eq (tgt := 124) X dX5_way_112 ⟨by omega, by omega⟩ (fun h112 => ?_) (fun h112 => ?_)
                · refine r_aload0 X dX5_way_124 ?_
                  refine r_iload1 X dX5_way_125 ?_
                  refine r_iload2 X dX5_way_126 ?_
                  refine r_callVi (n := 2) X (c_X5_yIn l X.2.2.1 _ k m (sd V k m) ⟨by omega, by omega⟩ ⟨by omega, by omega⟩ V hV h2.2.1.1.see hg1 ⟨by omega, by omega⟩) dX5_way_127 tw_485 tw_487 tw_11 tw_40 tw_488 z_c0 (by decide) rfl rfl (Nat.le_of_ble_eq_true rfl) ⟨by decide, by decide⟩ (by decide +kernel) rfl ?_
                  refine r_eqi (y := wB V k m w) (by unfold wB; first | (rw [if_pos (by omega)]; done) | (rw [if_neg (by omega)]; done)) ?_
                  refine r_istore9 X dX5_way_130 ?_
                  refine r_iload8 X dX5_way_132 ?_
                  refine r_iload5 X dX5_way_134 ?_
                  refine r_iload3 X dX5_way_136 ?_
                  refine r_isub X dX5_way_137 ?_
                  refine r_imul X dX5_way_138 ?_
                  refine r_iload9 X dX5_way_139 ?_
                  refine r_iload3 X dX5_way_141 ?_
                  refine r_imul X dX5_way_142 ?_
                  refine r_iadd X dX5_way_143 ?_
                  refine r_eqi (y := (((wUp V k m h w).toNat : Nat) : Int)) (by omega) ?_
                  refine r_istore10 X dX5_way_144 ?_
                  refine r_iload4 X dX5_way_146 ?_
                  refine r_if_eq (tgt := 157) X dX5_way_148 ⟨by omega, by omega⟩ (fun h148 => ?_) (fun h148 => ?_)
                  · refine r_iconst X dX5_way_157 ?_
                    refine r_goto (tgt := 162) X dX5_way_158 (by decide) ?_
                    refine r_istore11 X dX5_way_162 ?_
                    refine r_iload11 X dX5_way_164 ?_
                    refine r_if_eq (tgt := 174) X dX5_way_166 ⟨by omega, by omega⟩ (fun h166 => ?_) (fun h166 => ?_)
                    · refine r_iload5 X dX5_way_174 ?_
                      refine r_iload10 X dX5_way_176 ?_
                      refine r_iload5 X dX5_way_178 ?_
                      refine r_eqi (y := (((2 * vc V k).toNat : Nat) : Int)) (by omega) ?_
                      refine r_callSi (n := 3) X (c_X5_cleared l X.2.2.1 _ _ (wUp V k m h w).toNat (2 * vc V k).toNat ⟨by omega, by omega⟩ (by omega) ⟨by omega, by omega⟩) dX5_way_180 tw_489 tw_490 tw_40 tw_491 rfl (Nat.le_of_ble_eq_true rfl) ⟨by decide, by decide⟩ (by decide +kernel) rfl ?_
                      exact r_iretp X M dX5_way_183 ⟨by unfold s_way; rw [if_pos (by omega), if_neg (by omega), if_pos h0.2.2]; first | (rw [if_pos (by omega), show (((wUp V k m h w).toNat : Nat) : Int) = wUp V k m h w by omega]; done) | (rw [if_neg (by omega)]; done), h2.2.1⟩
                    · refine r_iload10 X dX5_way_169 ?_
                      refine r_goto (tgt := 176) X dX5_way_171 (by decide) ?_
                      refine r_iload10 X dX5_way_176 ?_
                      refine r_iload5 X dX5_way_178 ?_
                      refine r_eqi (y := (((2 * vc V k).toNat : Nat) : Int)) (by omega) ?_
                      refine r_callSi (n := 3) X (c_X5_cleared l X.2.2.1 _ _ (wUp V k m h w).toNat (2 * vc V k).toNat ⟨by omega, by omega⟩ (by omega) ⟨by omega, by omega⟩) dX5_way_180 tw_489 tw_490 tw_40 tw_491 rfl (Nat.le_of_ble_eq_true rfl) ⟨by decide, by decide⟩ (by decide +kernel) rfl ?_
                      exact r_iretp X M dX5_way_183 ⟨by unfold s_way; rw [if_pos (by omega), if_neg (by omega), if_pos h0.2.2]; first | (rw [if_pos (by omega), show (((wUp V k m h w).toNat : Nat) : Int) = wUp V k m h w by omega]; done) | (rw [if_neg (by omega)]; done), h2.2.1⟩
                  · refine r_iload4 X dX5_way_151 ?_
                    refine r_iconst X dX5_way_153 ?_
                    refine r_icmp_ne (tgt := 161) X dX5_way_154 ⟨⟨by omega, by omega⟩, by omega, by omega⟩ (fun h154 => ?_) (fun h154 => ?_)
                    · refine r_iconst X dX5_way_161 ?_
                      refine r_istore11 X dX5_way_162 ?_
                      refine r_iload11 X dX5_way_164 ?_
                      refine r_if_eq (tgt := 174) X dX5_way_166 ⟨by omega, by omega⟩ (fun h166 => ?_) (fun h166 => ?_)
                      · refine r_iload5 X dX5_way_174 ?_
                        refine r_iload10 X dX5_way_176 ?_
                        refine r_iload5 X dX5_way_178 ?_
                        refine r_eqi (y := (((2 * vc V k).toNat : Nat) : Int)) (by omega) ?_
                        refine r_callSi (n := 3) X (c_X5_cleared l X.2.2.1 _ _ (wUp V k m h w).toNat (2 * vc V k).toNat ⟨by omega, by omega⟩ (by omega) ⟨by omega, by omega⟩) dX5_way_180 tw_489 tw_490 tw_40 tw_491 rfl (Nat.le_of_ble_eq_true rfl) ⟨by decide, by decide⟩ (by decide +kernel) rfl ?_
                        exact r_iretp X M dX5_way_183 ⟨by unfold s_way; rw [if_pos (by omega), if_neg (by omega), if_pos h0.2.2]; first | (rw [if_pos (by omega), show (((wUp V k m h w).toNat : Nat) : Int) = wUp V k m h w by omega]; done) | (rw [if_neg (by omega)]; done), h2.2.1⟩
                      · refine r_iload10 X dX5_way_169 ?_
                        refine r_goto (tgt := 176) X dX5_way_171 (by decide) ?_
                        refine r_iload10 X dX5_way_176 ?_
                        refine r_iload5 X dX5_way_178 ?_
                        refine r_eqi (y := (((2 * vc V k).toNat : Nat) : Int)) (by omega) ?_
                        refine r_callSi (n := 3) X (c_X5_cleared l X.2.2.1 _ _ (wUp V k m h w).toNat (2 * vc V k).toNat ⟨by omega, by omega⟩ (by omega) ⟨by omega, by omega⟩) dX5_way_180 tw_489 tw_490 tw_40 tw_491 rfl (Nat.le_of_ble_eq_true rfl) ⟨by decide, by decide⟩ (by decide +kernel) rfl ?_
                        exact r_iretp X M dX5_way_183 ⟨by unfold s_way; rw [if_pos (by omega), if_neg (by omega), if_pos h0.2.2]; first | (rw [if_pos (by omega), show (((wUp V k m h w).toNat : Nat) : Int) = wUp V k m h w by omega]; done) | (rw [if_neg (by omega)]; done), h2.2.1⟩
                    · refine r_iconst X dX5_way_157 ?_
                      refine r_goto (tgt := 162) X dX5_way_158 (by decide) ?_
                      refine r_istore11 X dX5_way_162 ?_
                      refine r_iload11 X dX5_way_164 ?_
                      refine r_if_eq (tgt := 174) X dX5_way_166 ⟨by omega, by omega⟩ (fun h166 => ?_) (fun h166 => ?_)
                      · refine r_iload5 X dX5_way_174 ?_
                        refine r_iload10 X dX5_way_176 ?_
                        refine r_iload5 X dX5_way_178 ?_
                        refine r_eqi (y := (((2 * vc V k).toNat : Nat) : Int)) (by omega) ?_
                        refine r_callSi (n := 3) X (c_X5_cleared l X.2.2.1 _ _ (wUp V k m h w).toNat (2 * vc V k).toNat ⟨by omega, by omega⟩ (by omega) ⟨by omega, by omega⟩) dX5_way_180 tw_489 tw_490 tw_40 tw_491 rfl (Nat.le_of_ble_eq_true rfl) ⟨by decide, by decide⟩ (by decide +kernel) rfl ?_
                        exact r_iretp X M dX5_way_183 ⟨by unfold s_way; rw [if_pos (by omega), if_neg (by omega), if_pos h0.2.2]; first | (rw [if_pos (by omega), show (((wUp V k m h w).toNat : Nat) : Int) = wUp V k m h w by omega]; done) | (rw [if_neg (by omega)]; done), h2.2.1⟩
                      · refine r_iload10 X dX5_way_169 ?_
                        refine r_goto (tgt := 176) X dX5_way_171 (by decide) ?_
                        refine r_iload10 X dX5_way_176 ?_
                        refine r_iload5 X dX5_way_178 ?_
                        refine r_eqi (y := (((2 * vc V k).toNat : Nat) : Int)) (by omega) ?_
                        refine r_callSi (n := 3) X (c_X5_cleared l X.2.2.1 _ _ (wUp V k m h w).toNat (2 * vc V k).toNat ⟨by omega, by omega⟩ (by omega) ⟨by omega, by omega⟩) dX5_way_180 tw_489 tw_490 tw_40 tw_491 rfl (Nat.le_of_ble_eq_true rfl) ⟨by decide, by decide⟩ (by decide +kernel) rfl ?_
                        exact r_iretp X M dX5_way_183 ⟨by unfold s_way; rw [if_pos (by omega), if_neg (by omega), if_pos h0.2.2]; first | (rw [if_pos (by omega), show (((wUp V k m h w).toNat : Nat) : Int) = wUp V k m h w by omega]; done) | (rw [if_neg (by omega)]; done), h2.2.1⟩
                · refine r_aload0 X dX5_way_115 ?_
                  refine r_iload1 X dX5_way_116 ?_
                  refine r_iload2 X dX5_way_117 ?_
                  refine r_callVi (n := 2) X (c_X5_xIn l X.2.2.1 _ k m (sd V k m) ⟨by omega, by omega⟩ ⟨by omega, by omega⟩ V hV h2.2.1.1.see hg1 ⟨by omega, by omega⟩) dX5_way_118 tw_481 tw_483 tw_10 tw_40 tw_484 z_c0 (by decide) rfl rfl (Nat.le_of_ble_eq_true rfl) ⟨by decide, by decide⟩ (by decide +kernel) rfl ?_
                  refine r_goto (tgt := 130) X dX5_way_121 (by decide) ?_
                  refine r_eqi (y := wB V k m w) (by unfold wB; first | (rw [if_pos (by omega)]; done) | (rw [if_neg (by omega)]; done)) ?_
                  refine r_istore9 X dX5_way_130 ?_
                  refine r_iload8 X dX5_way_132 ?_
                  refine r_iload5 X dX5_way_134 ?_
                  refine r_iload3 X dX5_way_136 ?_
                  refine r_isub X dX5_way_137 ?_
                  refine r_imul X dX5_way_138 ?_
                  refine r_iload9 X dX5_way_139 ?_
                  refine r_iload3 X dX5_way_141 ?_
                  refine r_imul X dX5_way_142 ?_
                  refine r_iadd X dX5_way_143 ?_
                  refine r_eqi (y := (((wUp V k m h w).toNat : Nat) : Int)) (by omega) ?_
                  refine r_istore10 X dX5_way_144 ?_
                  refine r_iload4 X dX5_way_146 ?_
                  refine r_if_eq (tgt := 157) X dX5_way_148 ⟨by omega, by omega⟩ (fun h148 => ?_) (fun h148 => ?_)
                  · refine r_iconst X dX5_way_157 ?_
                    refine r_goto (tgt := 162) X dX5_way_158 (by decide) ?_
                    refine r_istore11 X dX5_way_162 ?_
                    refine r_iload11 X dX5_way_164 ?_
                    refine r_if_eq (tgt := 174) X dX5_way_166 ⟨by omega, by omega⟩ (fun h166 => ?_) (fun h166 => ?_)
                    · refine r_iload5 X dX5_way_174 ?_
                      refine r_iload10 X dX5_way_176 ?_
                      refine r_iload5 X dX5_way_178 ?_
                      refine r_eqi (y := (((2 * vc V k).toNat : Nat) : Int)) (by omega) ?_
                      refine r_callSi (n := 3) X (c_X5_cleared l X.2.2.1 _ _ (wUp V k m h w).toNat (2 * vc V k).toNat ⟨by omega, by omega⟩ (by omega) ⟨by omega, by omega⟩) dX5_way_180 tw_489 tw_490 tw_40 tw_491 rfl (Nat.le_of_ble_eq_true rfl) ⟨by decide, by decide⟩ (by decide +kernel) rfl ?_
                      exact r_iretp X M dX5_way_183 ⟨by unfold s_way; rw [if_pos (by omega), if_neg (by omega), if_pos h0.2.2]; first | (rw [if_pos (by omega), show (((wUp V k m h w).toNat : Nat) : Int) = wUp V k m h w by omega]; done) | (rw [if_neg (by omega)]; done), h2.2.1⟩
                    · refine r_iload10 X dX5_way_169 ?_
                      refine r_goto (tgt := 176) X dX5_way_171 (by decide) ?_
                      refine r_iload10 X dX5_way_176 ?_
                      refine r_iload5 X dX5_way_178 ?_
                      refine r_eqi (y := (((2 * vc V k).toNat : Nat) : Int)) (by omega) ?_
                      refine r_callSi (n := 3) X (c_X5_cleared l X.2.2.1 _ _ (wUp V k m h w).toNat (2 * vc V k).toNat ⟨by omega, by omega⟩ (by omega) ⟨by omega, by omega⟩) dX5_way_180 tw_489 tw_490 tw_40 tw_491 rfl (Nat.le_of_ble_eq_true rfl) ⟨by decide, by decide⟩ (by decide +kernel) rfl ?_
                      exact r_iretp X M dX5_way_183 ⟨by unfold s_way; rw [if_pos (by omega), if_neg (by omega), if_pos h0.2.2]; first | (rw [if_pos (by omega), show (((wUp V k m h w).toNat : Nat) : Int) = wUp V k m h w by omega]; done) | (rw [if_neg (by omega)]; done), h2.2.1⟩
                  · refine r_iload4 X dX5_way_151 ?_
                    refine r_iconst X dX5_way_153 ?_
                    refine r_icmp_ne (tgt := 161) X dX5_way_154 ⟨⟨by omega, by omega⟩, by omega, by omega⟩ (fun h154 => ?_) (fun h154 => ?_)
                    · refine r_iconst X dX5_way_161 ?_
                      refine r_istore11 X dX5_way_162 ?_
                      refine r_iload11 X dX5_way_164 ?_
                      refine r_if_eq (tgt := 174) X dX5_way_166 ⟨by omega, by omega⟩ (fun h166 => ?_) (fun h166 => ?_)
                      · refine r_iload5 X dX5_way_174 ?_
                        refine r_iload10 X dX5_way_176 ?_
                        refine r_iload5 X dX5_way_178 ?_
                        refine r_eqi (y := (((2 * vc V k).toNat : Nat) : Int)) (by omega) ?_
                        refine r_callSi (n := 3) X (c_X5_cleared l X.2.2.1 _ _ (wUp V k m h w).toNat (2 * vc V k).toNat ⟨by omega, by omega⟩ (by omega) ⟨by omega, by omega⟩) dX5_way_180 tw_489 tw_490 tw_40 tw_491 rfl (Nat.le_of_ble_eq_true rfl) ⟨by decide, by decide⟩ (by decide +kernel) rfl ?_
                        exact r_iretp X M dX5_way_183 ⟨by unfold s_way; rw [if_pos (by omega), if_neg (by omega), if_pos h0.2.2]; first | (rw [if_pos (by omega), show (((wUp V k m h w).toNat : Nat) : Int) = wUp V k m h w by omega]; done) | (rw [if_neg (by omega)]; done), h2.2.1⟩
                      · refine r_iload10 X dX5_way_169 ?_
                        refine r_goto (tgt := 176) X dX5_way_171 (by decide) ?_
                        refine r_iload10 X dX5_way_176 ?_
                        refine r_iload5 X dX5_way_178 ?_
                        refine r_eqi (y := (((2 * vc V k).toNat : Nat) : Int)) (by omega) ?_
                        refine r_callSi (n := 3) X (c_X5_cleared l X.2.2.1 _ _ (wUp V k m h w).toNat (2 * vc V k).toNat ⟨by omega, by omega⟩ (by omega) ⟨by omega, by omega⟩) dX5_way_180 tw_489 tw_490 tw_40 tw_491 rfl (Nat.le_of_ble_eq_true rfl) ⟨by decide, by decide⟩ (by decide +kernel) rfl ?_
                        exact r_iretp X M dX5_way_183 ⟨by unfold s_way; rw [if_pos (by omega), if_neg (by omega), if_pos h0.2.2]; first | (rw [if_pos (by omega), show (((wUp V k m h w).toNat : Nat) : Int) = wUp V k m h w by omega]; done) | (rw [if_neg (by omega)]; done), h2.2.1⟩
                    · refine r_iconst X dX5_way_157 ?_
                      refine r_goto (tgt := 162) X dX5_way_158 (by decide) ?_
                      refine r_istore11 X dX5_way_162 ?_
                      refine r_iload11 X dX5_way_164 ?_
                      refine r_if_eq (tgt := 174) X dX5_way_166 ⟨by omega, by omega⟩ (fun h166 => ?_) (fun h166 => ?_)
                      · refine r_iload5 X dX5_way_174 ?_
                        refine r_iload10 X dX5_way_176 ?_
                        refine r_iload5 X dX5_way_178 ?_
                        refine r_eqi (y := (((2 * vc V k).toNat : Nat) : Int)) (by omega) ?_
                        refine r_callSi (n := 3) X (c_X5_cleared l X.2.2.1 _ _ (wUp V k m h w).toNat (2 * vc V k).toNat ⟨by omega, by omega⟩ (by omega) ⟨by omega, by omega⟩) dX5_way_180 tw_489 tw_490 tw_40 tw_491 rfl (Nat.le_of_ble_eq_true rfl) ⟨by decide, by decide⟩ (by decide +kernel) rfl ?_
                        exact r_iretp X M dX5_way_183 ⟨by unfold s_way; rw [if_pos (by omega), if_neg (by omega), if_pos h0.2.2]; first | (rw [if_pos (by omega), show (((wUp V k m h w).toNat : Nat) : Int) = wUp V k m h w by omega]; done) | (rw [if_neg (by omega)]; done), h2.2.1⟩
                      · refine r_iload10 X dX5_way_169 ?_
                        refine r_goto (tgt := 176) X dX5_way_171 (by decide) ?_
                        refine r_iload10 X dX5_way_176 ?_
                        refine r_iload5 X dX5_way_178 ?_
                        refine r_eqi (y := (((2 * vc V k).toNat : Nat) : Int)) (by omega) ?_
                        refine r_callSi (n := 3) X (c_X5_cleared l X.2.2.1 _ _ (wUp V k m h w).toNat (2 * vc V k).toNat ⟨by omega, by omega⟩ (by omega) ⟨by omega, by omega⟩) dX5_way_180 tw_489 tw_490 tw_40 tw_491 rfl (Nat.le_of_ble_eq_true rfl) ⟨by decide, by decide⟩ (by decide +kernel) rfl ?_
                        exact r_iretp X M dX5_way_183 ⟨by unfold s_way; rw [if_pos (by omega), if_neg (by omega), if_pos h0.2.2]; first | (rw [if_pos (by omega), show (((wUp V k m h w).toNat : Nat) : Int) = wUp V k m h w by omega]; done) | (rw [if_neg (by omega)]; done), h2.2.1⟩
            · refine r_iconst X dX5_way_77 ?_
              refine r_goto (tgt := 82) X dX5_way_78 (by decide) ?_
              refine r_istore7 X dX5_way_82 ?_
              refine r_iload7 X dX5_way_84 ?_
              refine r_if_eq (tgt := 100) X dX5_way_86 ⟨by omega, by omega⟩ (fun h86 => ?_) (fun h86 => ?_)
              · refine r_aload0 X dX5_way_100 ?_
                refine r_iload1 X dX5_way_101 ?_
                refine r_iconst X dX5_way_102 ?_
                refine r_isub X dX5_way_103 ?_
                refine r_iload2 X dX5_way_104 ?_
                refine r_callVi (n := 2) X (c_X5_yIn l X.2.2.1 _ (k - 1) m (sd V (k - 1) m) ⟨by omega, by omega⟩ ⟨by omega, by omega⟩ V hV h2.2.1.1.see hg0 ⟨by omega, by omega⟩) dX5_way_105 tw_485 tw_487 tw_11 tw_40 tw_488 z_c0 (by decide) rfl rfl (Nat.le_of_ble_eq_true rfl) ⟨by decide, by decide⟩ (by decide +kernel) rfl ?_
                refine r_eqi (y := wA V k m w) (by unfold wA; first | (rw [if_pos (by omega)]; done) | (rw [if_neg (by omega)]; done)) ?_
                refine r_istore8 X dX5_way_108 ?_
                refine r_iload7 X dX5_way_110 ?_
                refine r_if_eq (tgt := 124) X dX5_way_112 ⟨by omega, by omega⟩ (fun h112 => ?_) (fun h112 => ?_)
                · refine r_aload0 X dX5_way_124 ?_
                  refine r_iload1 X dX5_way_125 ?_
                  refine r_iload2 X dX5_way_126 ?_
                  refine r_callVi (n := 2) X (c_X5_yIn l X.2.2.1 _ k m (sd V k m) ⟨by omega, by omega⟩ ⟨by omega, by omega⟩ V hV h2.2.1.1.see hg1 ⟨by omega, by omega⟩) dX5_way_127 tw_485 tw_487 tw_11 tw_40 tw_488 z_c0 (by decide) rfl rfl (Nat.le_of_ble_eq_true rfl) ⟨by decide, by decide⟩ (by decide +kernel) rfl ?_
                  refine r_eqi (y := wB V k m w) (by unfold wB; first | (rw [if_pos (by omega)]; done) | (rw [if_neg (by omega)]; done)) ?_
                  refine r_istore9 X dX5_way_130 ?_
                  refine r_iload8 X dX5_way_132 ?_
                  refine r_iload5 X dX5_way_134 ?_
                  refine r_iload3 X dX5_way_136 ?_
                  refine r_isub X dX5_way_137 ?_
                  refine r_imul X dX5_way_138 ?_
                  refine r_iload9 X dX5_way_139 ?_
                  refine r_iload3 X dX5_way_141 ?_
                  refine r_imul X dX5_way_142 ?_
                  refine r_iadd X dX5_way_143 ?_
                  refine r_eqi (y := (((wUp V k m h w).toNat : Nat) : Int)) (by omega) ?_
                  refine r_istore10 X dX5_way_144 ?_
                  refine r_iload4 X dX5_way_146 ?_
                  refine r_if_eq (tgt := 157) X dX5_way_148 ⟨by omega, by omega⟩ (fun h148 => ?_) (fun h148 => ?_)
                  · refine r_iconst X dX5_way_157 ?_
                    refine r_goto (tgt := 162) X dX5_way_158 (by decide) ?_
                    refine r_istore11 X dX5_way_162 ?_
                    refine r_iload11 X dX5_way_164 ?_
                    refine r_if_eq (tgt := 174) X dX5_way_166 ⟨by omega, by omega⟩ (fun h166 => ?_) (fun h166 => ?_)
                    · refine r_iload5 X dX5_way_174 ?_
                      refine r_iload10 X dX5_way_176 ?_
                      refine r_iload5 X dX5_way_178 ?_
                      refine r_eqi (y := (((2 * vc V k).toNat : Nat) : Int)) (by omega) ?_
                      refine r_callSi (n := 3) X (c_X5_cleared l X.2.2.1 _ _ (wUp V k m h w).toNat (2 * vc V k).toNat ⟨by omega, by omega⟩ (by omega) ⟨by omega, by omega⟩) dX5_way_180 tw_489 tw_490 tw_40 tw_491 rfl (Nat.le_of_ble_eq_true rfl) ⟨by decide, by decide⟩ (by decide +kernel) rfl ?_
                      exact r_iretp X M dX5_way_183 ⟨by unfold s_way; rw [if_pos (by omega), if_neg (by omega), if_pos h0.2.2]; first | (rw [if_pos (by omega), show (((wUp V k m h w).toNat : Nat) : Int) = wUp V k m h w by omega]; done) | (rw [if_neg (by omega)]; done), h2.2.1⟩
                    · refine r_iload10 X dX5_way_169 ?_
                      refine r_goto (tgt := 176) X dX5_way_171 (by decide) ?_
                      refine r_iload10 X dX5_way_176 ?_
                      refine r_iload5 X dX5_way_178 ?_
                      refine r_eqi (y := (((2 * vc V k).toNat : Nat) : Int)) (by omega) ?_
                      refine r_callSi (n := 3) X (c_X5_cleared l X.2.2.1 _ _ (wUp V k m h w).toNat (2 * vc V k).toNat ⟨by omega, by omega⟩ (by omega) ⟨by omega, by omega⟩) dX5_way_180 tw_489 tw_490 tw_40 tw_491 rfl (Nat.le_of_ble_eq_true rfl) ⟨by decide, by decide⟩ (by decide +kernel) rfl ?_
                      exact r_iretp X M dX5_way_183 ⟨by unfold s_way; rw [if_pos (by omega), if_neg (by omega), if_pos h0.2.2]; first | (rw [if_pos (by omega), show (((wUp V k m h w).toNat : Nat) : Int) = wUp V k m h w by omega]; done) | (rw [if_neg (by omega)]; done), h2.2.1⟩
                  · refine r_iload4 X dX5_way_151 ?_
                    refine r_iconst X dX5_way_153 ?_
                    refine r_icmp_ne (tgt := 161) X dX5_way_154 ⟨⟨by omega, by omega⟩, by omega, by omega⟩ (fun h154 => ?_) (fun h154 => ?_)
                    · refine r_iconst X dX5_way_161 ?_
                      refine r_istore11 X dX5_way_162 ?_
                      refine r_iload11 X dX5_way_164 ?_
                      refine r_if_eq (tgt := 174) X dX5_way_166 ⟨by omega, by omega⟩ (fun h166 => ?_) (fun h166 => ?_)
                      · refine r_iload5 X dX5_way_174 ?_
                        refine r_iload10 X dX5_way_176 ?_
                        refine r_iload5 X dX5_way_178 ?_
                        refine r_eqi (y := (((2 * vc V k).toNat : Nat) : Int)) (by omega) ?_
                        refine r_callSi (n := 3) X (c_X5_cleared l X.2.2.1 _ _ (wUp V k m h w).toNat (2 * vc V k).toNat ⟨by omega, by omega⟩ (by omega) ⟨by omega, by omega⟩) dX5_way_180 tw_489 tw_490 tw_40 tw_491 rfl (Nat.le_of_ble_eq_true rfl) ⟨by decide, by decide⟩ (by decide +kernel) rfl ?_
                        exact r_iretp X M dX5_way_183 ⟨by unfold s_way; rw [if_pos (by omega), if_neg (by omega), if_pos h0.2.2]; first | (rw [if_pos (by omega), show (((wUp V k m h w).toNat : Nat) : Int) = wUp V k m h w by omega]; done) | (rw [if_neg (by omega)]; done), h2.2.1⟩
                      · refine r_iload10 X dX5_way_169 ?_
                        refine r_goto (tgt := 176) X dX5_way_171 (by decide) ?_
                        refine r_iload10 X dX5_way_176 ?_
                        refine r_iload5 X dX5_way_178 ?_
                        refine r_eqi (y := (((2 * vc V k).toNat : Nat) : Int)) (by omega) ?_
                        refine r_callSi (n := 3) X (c_X5_cleared l X.2.2.1 _ _ (wUp V k m h w).toNat (2 * vc V k).toNat ⟨by omega, by omega⟩ (by omega) ⟨by omega, by omega⟩) dX5_way_180 tw_489 tw_490 tw_40 tw_491 rfl (Nat.le_of_ble_eq_true rfl) ⟨by decide, by decide⟩ (by decide +kernel) rfl ?_
                        exact r_iretp X M dX5_way_183 ⟨by unfold s_way; rw [if_pos (by omega), if_neg (by omega), if_pos h0.2.2]; first | (rw [if_pos (by omega), show (((wUp V k m h w).toNat : Nat) : Int) = wUp V k m h w by omega]; done) | (rw [if_neg (by omega)]; done), h2.2.1⟩
                    · refine r_iconst X dX5_way_157 ?_
                      refine r_goto (tgt := 162) X dX5_way_158 (by decide) ?_
                      refine r_istore11 X dX5_way_162 ?_
                      refine r_iload11 X dX5_way_164 ?_
                      refine r_if_eq (tgt := 174) X dX5_way_166 ⟨by omega, by omega⟩ (fun h166 => ?_) (fun h166 => ?_)
                      · refine r_iload5 X dX5_way_174 ?_
                        refine r_iload10 X dX5_way_176 ?_
                        refine r_iload5 X dX5_way_178 ?_
                        refine r_eqi (y := (((2 * vc V k).toNat : Nat) : Int)) (by omega) ?_
                        refine r_callSi (n := 3) X (c_X5_cleared l X.2.2.1 _ _ (wUp V k m h w).toNat (2 * vc V k).toNat ⟨by omega, by omega⟩ (by omega) ⟨by omega, by omega⟩) dX5_way_180 tw_489 tw_490 tw_40 tw_491 rfl (Nat.le_of_ble_eq_true rfl) ⟨by decide, by decide⟩ (by decide +kernel) rfl ?_
                        exact r_iretp X M dX5_way_183 ⟨by unfold s_way; rw [if_pos (by omega), if_neg (by omega), if_pos h0.2.2]; first | (rw [if_pos (by omega), show (((wUp V k m h w).toNat : Nat) : Int) = wUp V k m h w by omega]; done) | (rw [if_neg (by omega)]; done), h2.2.1⟩
                      · refine r_iload10 X dX5_way_169 ?_
                        refine r_goto (tgt := 176) X dX5_way_171 (by decide) ?_
                        refine r_iload10 X dX5_way_176 ?_
                        refine r_iload5 X dX5_way_178 ?_
                        refine r_eqi (y := (((2 * vc V k).toNat : Nat) : Int)) (by omega) ?_
                        refine r_callSi (n := 3) X (c_X5_cleared l X.2.2.1 _ _ (wUp V k m h w).toNat (2 * vc V k).toNat ⟨by omega, by omega⟩ (by omega) ⟨by omega, by omega⟩) dX5_way_180 tw_489 tw_490 tw_40 tw_491 rfl (Nat.le_of_ble_eq_true rfl) ⟨by decide, by decide⟩ (by decide +kernel) rfl ?_
                        exact r_iretp X M dX5_way_183 ⟨by unfold s_way; rw [if_pos (by omega), if_neg (by omega), if_pos h0.2.2]; first | (rw [if_pos (by omega), show (((wUp V k m h w).toNat : Nat) : Int) = wUp V k m h w by omega]; done) | (rw [if_neg (by omega)]; done), h2.2.1⟩
                · refine r_aload0 X dX5_way_115 ?_
                  refine r_iload1 X dX5_way_116 ?_
                  refine r_iload2 X dX5_way_117 ?_
                  refine r_callVi (n := 2) X (c_X5_xIn l X.2.2.1 _ k m (sd V k m) ⟨by omega, by omega⟩ ⟨by omega, by omega⟩ V hV h2.2.1.1.see hg1 ⟨by omega, by omega⟩) dX5_way_118 tw_481 tw_483 tw_10 tw_40 tw_484 z_c0 (by decide) rfl rfl (Nat.le_of_ble_eq_true rfl) ⟨by decide, by decide⟩ (by decide +kernel) rfl ?_
                  refine r_goto (tgt := 130) X dX5_way_121 (by decide) ?_
                  refine r_eqi (y := wB V k m w) (by unfold wB; first | (rw [if_pos (by omega)]; done) | (rw [if_neg (by omega)]; done)) ?_
                  refine r_istore9 X dX5_way_130 ?_
                  refine r_iload8 X dX5_way_132 ?_
                  refine r_iload5 X dX5_way_134 ?_
                  refine r_iload3 X dX5_way_136 ?_
                  refine r_isub X dX5_way_137 ?_
                  refine r_imul X dX5_way_138 ?_
                  refine r_iload9 X dX5_way_139 ?_
                  refine r_iload3 X dX5_way_141 ?_
                  refine r_imul X dX5_way_142 ?_
                  refine r_iadd X dX5_way_143 ?_
                  refine r_eqi (y := (((wUp V k m h w).toNat : Nat) : Int)) (by omega) ?_
                  refine r_istore10 X dX5_way_144 ?_
                  refine r_iload4 X dX5_way_146 ?_
                  refine r_if_eq (tgt := 157) X dX5_way_148 ⟨by omega, by omega⟩ (fun h148 => ?_) (fun h148 => ?_)
                  · refine r_iconst X dX5_way_157 ?_
                    refine r_goto (tgt := 162) X dX5_way_158 (by decide) ?_
                    refine r_istore11 X dX5_way_162 ?_
                    refine r_iload11 X dX5_way_164 ?_
                    refine r_if_eq (tgt := 174) X dX5_way_166 ⟨by omega, by omega⟩ (fun h166 => ?_) (fun h166 => ?_)
                    · refine r_iload5 X dX5_way_174 ?_
                      refine r_iload10 X dX5_way_176 ?_
                      refine r_iload5 X dX5_way_178 ?_
                      refine r_eqi (y := (((2 * vc V k).toNat : Nat) : Int)) (by omega) ?_
                      refine r_callSi (n := 3) X (c_X5_cleared l X.2.2.1 _ _ (wUp V k m h w).toNat (2 * vc V k).toNat ⟨by omega, by omega⟩ (by omega) ⟨by omega, by omega⟩) dX5_way_180 tw_489 tw_490 tw_40 tw_491 rfl (Nat.le_of_ble_eq_true rfl) ⟨by decide, by decide⟩ (by decide +kernel) rfl ?_
                      exact r_iretp X M dX5_way_183 ⟨by unfold s_way; rw [if_pos (by omega), if_neg (by omega), if_pos h0.2.2]; first | (rw [if_pos (by omega), show (((wUp V k m h w).toNat : Nat) : Int) = wUp V k m h w by omega]; done) | (rw [if_neg (by omega)]; done), h2.2.1⟩
                    · refine r_iload10 X dX5_way_169 ?_
                      refine r_goto (tgt := 176) X dX5_way_171 (by decide) ?_
                      refine r_iload10 X dX5_way_176 ?_
                      refine r_iload5 X dX5_way_178 ?_
                      refine r_eqi (y := (((2 * vc V k).toNat : Nat) : Int)) (by omega) ?_
                      refine r_callSi (n := 3) X (c_X5_cleared l X.2.2.1 _ _ (wUp V k m h w).toNat (2 * vc V k).toNat ⟨by omega, by omega⟩ (by omega) ⟨by omega, by omega⟩) dX5_way_180 tw_489 tw_490 tw_40 tw_491 rfl (Nat.le_of_ble_eq_true rfl) ⟨by decide, by decide⟩ (by decide +kernel) rfl ?_
                      exact r_iretp X M dX5_way_183 ⟨by unfold s_way; rw [if_pos (by omega), if_neg (by omega), if_pos h0.2.2]; first | (rw [if_pos (by omega), show (((wUp V k m h w).toNat : Nat) : Int) = wUp V k m h w by omega]; done) | (rw [if_neg (by omega)]; done), h2.2.1⟩
                  · refine r_iload4 X dX5_way_151 ?_
                    refine r_iconst X dX5_way_153 ?_
                    refine r_icmp_ne (tgt := 161) X dX5_way_154 ⟨⟨by omega, by omega⟩, by omega, by omega⟩ (fun h154 => ?_) (fun h154 => ?_)
                    · refine r_iconst X dX5_way_161 ?_
                      refine r_istore11 X dX5_way_162 ?_
                      refine r_iload11 X dX5_way_164 ?_
                      refine r_if_eq (tgt := 174) X dX5_way_166 ⟨by omega, by omega⟩ (fun h166 => ?_) (fun h166 => ?_)
                      · refine r_iload5 X dX5_way_174 ?_
                        refine r_iload10 X dX5_way_176 ?_
                        refine r_iload5 X dX5_way_178 ?_
                        refine r_eqi (y := (((2 * vc V k).toNat : Nat) : Int)) (by omega) ?_
                        refine r_callSi (n := 3) X (c_X5_cleared l X.2.2.1 _ _ (wUp V k m h w).toNat (2 * vc V k).toNat ⟨by omega, by omega⟩ (by omega) ⟨by omega, by omega⟩) dX5_way_180 tw_489 tw_490 tw_40 tw_491 rfl (Nat.le_of_ble_eq_true rfl) ⟨by decide, by decide⟩ (by decide +kernel) rfl ?_
                        exact r_iretp X M dX5_way_183 ⟨by unfold s_way; rw [if_pos (by omega), if_neg (by omega), if_pos h0.2.2]; first | (rw [if_pos (by omega), show (((wUp V k m h w).toNat : Nat) : Int) = wUp V k m h w by omega]; done) | (rw [if_neg (by omega)]; done), h2.2.1⟩
                      · refine r_iload10 X dX5_way_169 ?_
                        refine r_goto (tgt := 176) X dX5_way_171 (by decide) ?_
                        refine r_iload10 X dX5_way_176 ?_
                        refine r_iload5 X dX5_way_178 ?_
                        refine r_eqi (y := (((2 * vc V k).toNat : Nat) : Int)) (by omega) ?_
                        refine r_callSi (n := 3) X (c_X5_cleared l X.2.2.1 _ _ (wUp V k m h w).toNat (2 * vc V k).toNat ⟨by omega, by omega⟩ (by omega) ⟨by omega, by omega⟩) dX5_way_180 tw_489 tw_490 tw_40 tw_491 rfl (Nat.le_of_ble_eq_true rfl) ⟨by decide, by decide⟩ (by decide +kernel) rfl ?_
                        exact r_iretp X M dX5_way_183 ⟨by unfold s_way; rw [if_pos (by omega), if_neg (by omega), if_pos h0.2.2]; first | (rw [if_pos (by omega), show (((wUp V k m h w).toNat : Nat) : Int) = wUp V k m h w by omega]; done) | (rw [if_neg (by omega)]; done), h2.2.1⟩
                    · refine r_iconst X dX5_way_157 ?_
                      refine r_goto (tgt := 162) X dX5_way_158 (by decide) ?_
                      refine r_istore11 X dX5_way_162 ?_
                      refine r_iload11 X dX5_way_164 ?_
                      refine r_if_eq (tgt := 174) X dX5_way_166 ⟨by omega, by omega⟩ (fun h166 => ?_) (fun h166 => ?_)
                      · refine r_iload5 X dX5_way_174 ?_
                        refine r_iload10 X dX5_way_176 ?_
                        refine r_iload5 X dX5_way_178 ?_
                        refine r_eqi (y := (((2 * vc V k).toNat : Nat) : Int)) (by omega) ?_
                        refine r_callSi (n := 3) X (c_X5_cleared l X.2.2.1 _ _ (wUp V k m h w).toNat (2 * vc V k).toNat ⟨by omega, by omega⟩ (by omega) ⟨by omega, by omega⟩) dX5_way_180 tw_489 tw_490 tw_40 tw_491 rfl (Nat.le_of_ble_eq_true rfl) ⟨by decide, by decide⟩ (by decide +kernel) rfl ?_
                        exact r_iretp X M dX5_way_183 ⟨by unfold s_way; rw [if_pos (by omega), if_neg (by omega), if_pos h0.2.2]; first | (rw [if_pos (by omega), show (((wUp V k m h w).toNat : Nat) : Int) = wUp V k m h w by omega]; done) | (rw [if_neg (by omega)]; done), h2.2.1⟩
                      · refine r_iload10 X dX5_way_169 ?_
                        refine r_goto (tgt := 176) X dX5_way_171 (by decide) ?_
                        refine r_iload10 X dX5_way_176 ?_
                        refine r_iload5 X dX5_way_178 ?_
                        refine r_eqi (y := (((2 * vc V k).toNat : Nat) : Int)) (by omega) ?_
                        refine r_callSi (n := 3) X (c_X5_cleared l X.2.2.1 _ _ (wUp V k m h w).toNat (2 * vc V k).toNat ⟨by omega, by omega⟩ (by omega) ⟨by omega, by omega⟩) dX5_way_180 tw_489 tw_490 tw_40 tw_491 rfl (Nat.le_of_ble_eq_true rfl) ⟨by decide, by decide⟩ (by decide +kernel) rfl ?_
                        exact r_iretp X M dX5_way_183 ⟨by unfold s_way; rw [if_pos (by omega), if_neg (by omega), if_pos h0.2.2]; first | (rw [if_pos (by omega), show (((wUp V k m h w).toNat : Nat) : Int) = wUp V k m h w by omega]; done) | (rw [if_neg (by omega)]; done), h2.2.1⟩
              · refine r_aload0 X dX5_way_89 ?_
                refine r_iload1 X dX5_way_90 ?_
                refine r_iconst X dX5_way_91 ?_
                refine r_isub X dX5_way_92 ?_
                refine r_iload2 X dX5_way_93 ?_
                refine r_callVi (n := 2) X (c_X5_xIn l X.2.2.1 _ (k - 1) m (sd V (k - 1) m) ⟨by omega, by omega⟩ ⟨by omega, by omega⟩ V hV h2.2.1.1.see hg0 ⟨by omega, by omega⟩) dX5_way_94 tw_481 tw_483 tw_10 tw_40 tw_484 z_c0 (by decide) rfl rfl (Nat.le_of_ble_eq_true rfl) ⟨by decide, by decide⟩ (by decide +kernel) rfl ?_
                refine r_goto (tgt := 108) X dX5_way_97 (by decide) ?_
                refine r_eqi (y := wA V k m w) (by unfold wA; first | (rw [if_pos (by omega)]; done) | (rw [if_neg (by omega)]; done)) ?_
                refine r_istore8 X dX5_way_108 ?_
                refine r_iload7 X dX5_way_110 ?_
                refine r_if_eq (tgt := 124) X dX5_way_112 ⟨by omega, by omega⟩ (fun h112 => ?_) (fun h112 => ?_)
                · refine r_aload0 X dX5_way_124 ?_
                  refine r_iload1 X dX5_way_125 ?_
                  refine r_iload2 X dX5_way_126 ?_
                  refine r_callVi (n := 2) X (c_X5_yIn l X.2.2.1 _ k m (sd V k m) ⟨by omega, by omega⟩ ⟨by omega, by omega⟩ V hV h2.2.1.1.see hg1 ⟨by omega, by omega⟩) dX5_way_127 tw_485 tw_487 tw_11 tw_40 tw_488 z_c0 (by decide) rfl rfl (Nat.le_of_ble_eq_true rfl) ⟨by decide, by decide⟩ (by decide +kernel) rfl ?_
                  refine r_eqi (y := wB V k m w) (by unfold wB; first | (rw [if_pos (by omega)]; done) | (rw [if_neg (by omega)]; done)) ?_
                  refine r_istore9 X dX5_way_130 ?_
                  refine r_iload8 X dX5_way_132 ?_
                  refine r_iload5 X dX5_way_134 ?_
                  refine r_iload3 X dX5_way_136 ?_
                  refine r_isub X dX5_way_137 ?_
                  refine r_imul X dX5_way_138 ?_
                  refine r_iload9 X dX5_way_139 ?_
                  refine r_iload3 X dX5_way_141 ?_
                  refine r_imul X dX5_way_142 ?_
                  refine r_iadd X dX5_way_143 ?_
                  refine r_eqi (y := (((wUp V k m h w).toNat : Nat) : Int)) (by omega) ?_
                  refine r_istore10 X dX5_way_144 ?_
                  refine r_iload4 X dX5_way_146 ?_
                  refine r_if_eq (tgt := 157) X dX5_way_148 ⟨by omega, by omega⟩ (fun h148 => ?_) (fun h148 => ?_)
                  · refine r_iconst X dX5_way_157 ?_
                    refine r_goto (tgt := 162) X dX5_way_158 (by decide) ?_
                    refine r_istore11 X dX5_way_162 ?_
                    refine r_iload11 X dX5_way_164 ?_
                    refine r_if_eq (tgt := 174) X dX5_way_166 ⟨by omega, by omega⟩ (fun h166 => ?_) (fun h166 => ?_)
                    · refine r_iload5 X dX5_way_174 ?_
                      refine r_iload10 X dX5_way_176 ?_
                      refine r_iload5 X dX5_way_178 ?_
                      refine r_eqi (y := (((2 * vc V k).toNat : Nat) : Int)) (by omega) ?_
                      refine r_callSi (n := 3) X (c_X5_cleared l X.2.2.1 _ _ (wUp V k m h w).toNat (2 * vc V k).toNat ⟨by omega, by omega⟩ (by omega) ⟨by omega, by omega⟩) dX5_way_180 tw_489 tw_490 tw_40 tw_491 rfl (Nat.le_of_ble_eq_true rfl) ⟨by decide, by decide⟩ (by decide +kernel) rfl ?_
                      exact r_iretp X M dX5_way_183 ⟨by unfold s_way; rw [if_pos (by omega), if_neg (by omega), if_pos h0.2.2]; first | (rw [if_pos (by omega), show (((wUp V k m h w).toNat : Nat) : Int) = wUp V k m h w by omega]; done) | (rw [if_neg (by omega)]; done), h2.2.1⟩
                    · refine r_iload10 X dX5_way_169 ?_
                      refine r_goto (tgt := 176) X dX5_way_171 (by decide) ?_
                      refine r_iload10 X dX5_way_176 ?_
                      refine r_iload5 X dX5_way_178 ?_
                      refine r_eqi (y := (((2 * vc V k).toNat : Nat) : Int)) (by omega) ?_
                      refine r_callSi (n := 3) X (c_X5_cleared l X.2.2.1 _ _ (wUp V k m h w).toNat (2 * vc V k).toNat ⟨by omega, by omega⟩ (by omega) ⟨by omega, by omega⟩) dX5_way_180 tw_489 tw_490 tw_40 tw_491 rfl (Nat.le_of_ble_eq_true rfl) ⟨by decide, by decide⟩ (by decide +kernel) rfl ?_
                      exact r_iretp X M dX5_way_183 ⟨by unfold s_way; rw [if_pos (by omega), if_neg (by omega), if_pos h0.2.2]; first | (rw [if_pos (by omega), show (((wUp V k m h w).toNat : Nat) : Int) = wUp V k m h w by omega]; done) | (rw [if_neg (by omega)]; done), h2.2.1⟩
                  · refine r_iload4 X dX5_way_151 ?_
                    refine r_iconst X dX5_way_153 ?_
                    refine r_icmp_ne (tgt := 161) X dX5_way_154 ⟨⟨by omega, by omega⟩, by omega, by omega⟩ (fun h154 => ?_) (fun h154 => ?_)
                    · refine r_iconst X dX5_way_161 ?_
                      refine r_istore11 X dX5_way_162 ?_
                      refine r_iload11 X dX5_way_164 ?_
                      refine r_if_eq (tgt := 174) X dX5_way_166 ⟨by omega, by omega⟩ (fun h166 => ?_) (fun h166 => ?_)
                      · refine r_iload5 X dX5_way_174 ?_
                        refine r_iload10 X dX5_way_176 ?_
                        refine r_iload5 X dX5_way_178 ?_
                        refine r_eqi (y := (((2 * vc V k).toNat : Nat) : Int)) (by omega) ?_
                        refine r_callSi (n := 3) X (c_X5_cleared l X.2.2.1 _ _ (wUp V k m h w).toNat (2 * vc V k).toNat ⟨by omega, by omega⟩ (by omega) ⟨by omega, by omega⟩) dX5_way_180 tw_489 tw_490 tw_40 tw_491 rfl (Nat.le_of_ble_eq_true rfl) ⟨by decide, by decide⟩ (by decide +kernel) rfl ?_
                        exact r_iretp X M dX5_way_183 ⟨by unfold s_way; rw [if_pos (by omega), if_neg (by omega), if_pos h0.2.2]; first | (rw [if_pos (by omega), show (((wUp V k m h w).toNat : Nat) : Int) = wUp V k m h w by omega]; done) | (rw [if_neg (by omega)]; done), h2.2.1⟩
                      · refine r_iload10 X dX5_way_169 ?_
                        refine r_goto (tgt := 176) X dX5_way_171 (by decide) ?_
                        refine r_iload10 X dX5_way_176 ?_
                        refine r_iload5 X dX5_way_178 ?_
                        refine r_eqi (y := (((2 * vc V k).toNat : Nat) : Int)) (by omega) ?_
                        refine r_callSi (n := 3) X (c_X5_cleared l X.2.2.1 _ _ (wUp V k m h w).toNat (2 * vc V k).toNat ⟨by omega, by omega⟩ (by omega) ⟨by omega, by omega⟩) dX5_way_180 tw_489 tw_490 tw_40 tw_491 rfl (Nat.le_of_ble_eq_true rfl) ⟨by decide, by decide⟩ (by decide +kernel) rfl ?_
                        exact r_iretp X M dX5_way_183 ⟨by unfold s_way; rw [if_pos (by omega), if_neg (by omega), if_pos h0.2.2]; first | (rw [if_pos (by omega), show (((wUp V k m h w).toNat : Nat) : Int) = wUp V k m h w by omega]; done) | (rw [if_neg (by omega)]; done), h2.2.1⟩
                    · refine r_iconst X dX5_way_157 ?_
                      refine r_goto (tgt := 162) X dX5_way_158 (by decide) ?_
                      refine r_istore11 X dX5_way_162 ?_
                      refine r_iload11 X dX5_way_164 ?_
                      refine r_if_eq (tgt := 174) X dX5_way_166 ⟨by omega, by omega⟩ (fun h166 => ?_) (fun h166 => ?_)
                      · refine r_iload5 X dX5_way_174 ?_
                        refine r_iload10 X dX5_way_176 ?_
                        refine r_iload5 X dX5_way_178 ?_
                        refine r_eqi (y := (((2 * vc V k).toNat : Nat) : Int)) (by omega) ?_
                        refine r_callSi (n := 3) X (c_X5_cleared l X.2.2.1 _ _ (wUp V k m h w).toNat (2 * vc V k).toNat ⟨by omega, by omega⟩ (by omega) ⟨by omega, by omega⟩) dX5_way_180 tw_489 tw_490 tw_40 tw_491 rfl (Nat.le_of_ble_eq_true rfl) ⟨by decide, by decide⟩ (by decide +kernel) rfl ?_
                        exact r_iretp X M dX5_way_183 ⟨by unfold s_way; rw [if_pos (by omega), if_neg (by omega), if_pos h0.2.2]; first | (rw [if_pos (by omega), show (((wUp V k m h w).toNat : Nat) : Int) = wUp V k m h w by omega]; done) | (rw [if_neg (by omega)]; done), h2.2.1⟩
                      · refine r_iload10 X dX5_way_169 ?_
                        refine r_goto (tgt := 176) X dX5_way_171 (by decide) ?_
                        refine r_iload10 X dX5_way_176 ?_
                        refine r_iload5 X dX5_way_178 ?_
                        refine r_eqi (y := (((2 * vc V k).toNat : Nat) : Int)) (by omega) ?_
                        refine r_callSi (n := 3) X (c_X5_cleared l X.2.2.1 _ _ (wUp V k m h w).toNat (2 * vc V k).toNat ⟨by omega, by omega⟩ (by omega) ⟨by omega, by omega⟩) dX5_way_180 tw_489 tw_490 tw_40 tw_491 rfl (Nat.le_of_ble_eq_true rfl) ⟨by decide, by decide⟩ (by decide +kernel) rfl ?_
                        exact r_iretp X M dX5_way_183 ⟨by unfold s_way; rw [if_pos (by omega), if_neg (by omega), if_pos h0.2.2]; first | (rw [if_pos (by omega), show (((wUp V k m h w).toNat : Nat) : Int) = wUp V k m h w by omega]; done) | (rw [if_neg (by omega)]; done), h2.2.1⟩
                · refine r_aload0 X dX5_way_115 ?_
                  refine r_iload1 X dX5_way_116 ?_
                  refine r_iload2 X dX5_way_117 ?_
                  refine r_callVi (n := 2) X (c_X5_xIn l X.2.2.1 _ k m (sd V k m) ⟨by omega, by omega⟩ ⟨by omega, by omega⟩ V hV h2.2.1.1.see hg1 ⟨by omega, by omega⟩) dX5_way_118 tw_481 tw_483 tw_10 tw_40 tw_484 z_c0 (by decide) rfl rfl (Nat.le_of_ble_eq_true rfl) ⟨by decide, by decide⟩ (by decide +kernel) rfl ?_
                  refine r_goto (tgt := 130) X dX5_way_121 (by decide) ?_
                  refine r_eqi (y := wB V k m w) (by unfold wB; first | (rw [if_pos (by omega)]; done) | (rw [if_neg (by omega)]; done)) ?_
                  refine r_istore9 X dX5_way_130 ?_
                  refine r_iload8 X dX5_way_132 ?_
                  refine r_iload5 X dX5_way_134 ?_
                  refine r_iload3 X dX5_way_136 ?_
                  refine r_isub X dX5_way_137 ?_
                  refine r_imul X dX5_way_138 ?_
                  refine r_iload9 X dX5_way_139 ?_
                  refine r_iload3 X dX5_way_141 ?_
                  refine r_imul X dX5_way_142 ?_
                  refine r_iadd X dX5_way_143 ?_
                  refine r_eqi (y := (((wUp V k m h w).toNat : Nat) : Int)) (by omega) ?_
                  refine r_istore10 X dX5_way_144 ?_
                  refine r_iload4 X dX5_way_146 ?_
                  refine r_if_eq (tgt := 157) X dX5_way_148 ⟨by omega, by omega⟩ (fun h148 => ?_) (fun h148 => ?_)
                  · refine r_iconst X dX5_way_157 ?_
                    refine r_goto (tgt := 162) X dX5_way_158 (by decide) ?_
                    refine r_istore11 X dX5_way_162 ?_
                    refine r_iload11 X dX5_way_164 ?_
                    refine r_if_eq (tgt := 174) X dX5_way_166 ⟨by omega, by omega⟩ (fun h166 => ?_) (fun h166 => ?_)
                    · refine r_iload5 X dX5_way_174 ?_
                      refine r_iload10 X dX5_way_176 ?_
                      refine r_iload5 X dX5_way_178 ?_
                      refine r_eqi (y := (((2 * vc V k).toNat : Nat) : Int)) (by omega) ?_
                      refine r_callSi (n := 3) X (c_X5_cleared l X.2.2.1 _ _ (wUp V k m h w).toNat (2 * vc V k).toNat ⟨by omega, by omega⟩ (by omega) ⟨by omega, by omega⟩) dX5_way_180 tw_489 tw_490 tw_40 tw_491 rfl (Nat.le_of_ble_eq_true rfl) ⟨by decide, by decide⟩ (by decide +kernel) rfl ?_
                      exact r_iretp X M dX5_way_183 ⟨by unfold s_way; rw [if_pos (by omega), if_neg (by omega), if_pos h0.2.2]; first | (rw [if_pos (by omega), show (((wUp V k m h w).toNat : Nat) : Int) = wUp V k m h w by omega]; done) | (rw [if_neg (by omega)]; done), h2.2.1⟩
                    · refine r_iload10 X dX5_way_169 ?_
                      refine r_goto (tgt := 176) X dX5_way_171 (by decide) ?_
                      refine r_iload10 X dX5_way_176 ?_
                      refine r_iload5 X dX5_way_178 ?_
                      refine r_eqi (y := (((2 * vc V k).toNat : Nat) : Int)) (by omega) ?_
                      refine r_callSi (n := 3) X (c_X5_cleared l X.2.2.1 _ _ (wUp V k m h w).toNat (2 * vc V k).toNat ⟨by omega, by omega⟩ (by omega) ⟨by omega, by omega⟩) dX5_way_180 tw_489 tw_490 tw_40 tw_491 rfl (Nat.le_of_ble_eq_true rfl) ⟨by decide, by decide⟩ (by decide +kernel) rfl ?_
                      exact r_iretp X M dX5_way_183 ⟨by unfold s_way; rw [if_pos (by omega), if_neg (by omega), if_pos h0.2.2]; first | (rw [if_pos (by omega), show (((wUp V k m h w).toNat : Nat) : Int) = wUp V k m h w by omega]; done) | (rw [if_neg (by omega)]; done), h2.2.1⟩
                  · refine r_iload4 X dX5_way_151 ?_
                    refine r_iconst X dX5_way_153 ?_
                    refine r_icmp_ne (tgt := 161) X dX5_way_154 ⟨⟨by omega, by omega⟩, by omega, by omega⟩ (fun h154 => ?_) (fun h154 => ?_)
                    · refine r_iconst X dX5_way_161 ?_
                      refine r_istore11 X dX5_way_162 ?_
                      refine r_iload11 X dX5_way_164 ?_
                      refine r_if_eq (tgt := 174) X dX5_way_166 ⟨by omega, by omega⟩ (fun h166 => ?_) (fun h166 => ?_)
                      · refine r_iload5 X dX5_way_174 ?_
                        refine r_iload10 X dX5_way_176 ?_
                        refine r_iload5 X dX5_way_178 ?_
                        refine r_eqi (y := (((2 * vc V k).toNat : Nat) : Int)) (by omega) ?_
                        refine r_callSi (n := 3) X (c_X5_cleared l X.2.2.1 _ _ (wUp V k m h w).toNat (2 * vc V k).toNat ⟨by omega, by omega⟩ (by omega) ⟨by omega, by omega⟩) dX5_way_180 tw_489 tw_490 tw_40 tw_491 rfl (Nat.le_of_ble_eq_true rfl) ⟨by decide, by decide⟩ (by decide +kernel) rfl ?_
                        exact r_iretp X M dX5_way_183 ⟨by unfold s_way; rw [if_pos (by omega), if_neg (by omega), if_pos h0.2.2]; first | (rw [if_pos (by omega), show (((wUp V k m h w).toNat : Nat) : Int) = wUp V k m h w by omega]; done) | (rw [if_neg (by omega)]; done), h2.2.1⟩
                      · refine r_iload10 X dX5_way_169 ?_
                        refine r_goto (tgt := 176) X dX5_way_171 (by decide) ?_
                        refine r_iload10 X dX5_way_176 ?_
                        refine r_iload5 X dX5_way_178 ?_
                        refine r_eqi (y := (((2 * vc V k).toNat : Nat) : Int)) (by omega) ?_
                        refine r_callSi (n := 3) X (c_X5_cleared l X.2.2.1 _ _ (wUp V k m h w).toNat (2 * vc V k).toNat ⟨by omega, by omega⟩ (by omega) ⟨by omega, by omega⟩) dX5_way_180 tw_489 tw_490 tw_40 tw_491 rfl (Nat.le_of_ble_eq_true rfl) ⟨by decide, by decide⟩ (by decide +kernel) rfl ?_
                        exact r_iretp X M dX5_way_183 ⟨by unfold s_way; rw [if_pos (by omega), if_neg (by omega), if_pos h0.2.2]; first | (rw [if_pos (by omega), show (((wUp V k m h w).toNat : Nat) : Int) = wUp V k m h w by omega]; done) | (rw [if_neg (by omega)]; done), h2.2.1⟩
                    · refine r_iconst X dX5_way_157 ?_
                      refine r_goto (tgt := 162) X dX5_way_158 (by decide) ?_
                      refine r_istore11 X dX5_way_162 ?_
                      refine r_iload11 X dX5_way_164 ?_
                      refine r_if_eq (tgt := 174) X dX5_way_166 ⟨by omega, by omega⟩ (fun h166 => ?_) (fun h166 => ?_)
                      · refine r_iload5 X dX5_way_174 ?_
                        refine r_iload10 X dX5_way_176 ?_
                        refine r_iload5 X dX5_way_178 ?_
                        refine r_eqi (y := (((2 * vc V k).toNat : Nat) : Int)) (by omega) ?_
                        refine r_callSi (n := 3) X (c_X5_cleared l X.2.2.1 _ _ (wUp V k m h w).toNat (2 * vc V k).toNat ⟨by omega, by omega⟩ (by omega) ⟨by omega, by omega⟩) dX5_way_180 tw_489 tw_490 tw_40 tw_491 rfl (Nat.le_of_ble_eq_true rfl) ⟨by decide, by decide⟩ (by decide +kernel) rfl ?_
                        exact r_iretp X M dX5_way_183 ⟨by unfold s_way; rw [if_pos (by omega), if_neg (by omega), if_pos h0.2.2]; first | (rw [if_pos (by omega), show (((wUp V k m h w).toNat : Nat) : Int) = wUp V k m h w by omega]; done) | (rw [if_neg (by omega)]; done), h2.2.1⟩
                      · refine r_iload10 X dX5_way_169 ?_
                        refine r_goto (tgt := 176) X dX5_way_171 (by decide) ?_
                        refine r_iload10 X dX5_way_176 ?_
                        refine r_iload5 X dX5_way_178 ?_
                        refine r_eqi (y := (((2 * vc V k).toNat : Nat) : Int)) (by omega) ?_
                        refine r_callSi (n := 3) X (c_X5_cleared l X.2.2.1 _ _ (wUp V k m h w).toNat (2 * vc V k).toNat ⟨by omega, by omega⟩ (by omega) ⟨by omega, by omega⟩) dX5_way_180 tw_489 tw_490 tw_40 tw_491 rfl (Nat.le_of_ble_eq_true rfl) ⟨by decide, by decide⟩ (by decide +kernel) rfl ?_
                        exact r_iretp X M dX5_way_183 ⟨by unfold s_way; rw [if_pos (by omega), if_neg (by omega), if_pos h0.2.2]; first | (rw [if_pos (by omega), show (((wUp V k m h w).toNat : Nat) : Int) = wUp V k m h w by omega]; done) | (rw [if_neg (by omega)]; done), h2.2.1⟩
          · refine r_iload6 X dX5_way_68 ?_
            exact r_iretp X M dX5_way_70 ⟨by
                have hz := h2.1
                unfold s_ref at hz
                unfold s_way
                by_cases q0 : 0 ≤ m ∧ m < V 0
                · rw [if_pos (by omega)] at hz ⊢
                  by_cases q1 : V (6 + (2 * m + 1)) = 1
                  · rw [if_pos q1] at hz ⊢; exact hz
                  · rw [if_neg q1] at hz ⊢
                    by_cases q2 : vfd V k = 1
                    · rw [if_pos q2] at hz; omega
                    · rw [if_neg q2] at hz ⊢; exact hz
                · rw [if_neg (by omega)] at hz ⊢; exact hz, h2.2.1⟩
        · refine r_iconst X dX5_way_53 ?_
          exact r_iretp X M dX5_way_54 ⟨by unfold s_way; rw [if_neg (by omega)], zCq.refl hS hP h62⟩
      · refine r_iconst X dX5_way_25 ?_
        exact r_iretp X M dX5_way_26 ⟨by unfold s_way; rw [if_neg (by omega)], zCq.refl hS hP h62⟩

set_option maxRecDepth 100000 in
set_option maxHeartbeats 4000000 in
theorem c_X5_closest (l : Launch) {D : va_G} {κ : Nat → ClassId} {a : Nat → Nat} {A : Nat → Prop} (hA : z_aD a A) (σ : zSt) (k m o : Int) (hk : z_in k) (hmm : z_in m) (ho : z_in o) (V : zV) (hV : v_ok V) (hS : zShow σ 1 V) (hP : zPl σ V 52) (h62 : 0 ≤ σ 62 5 ∧ σ 62 5 ≤ 5) : z_Tp l D κ a A yX5_closest cX5_closest 4 (some .int) 13 [.ref (a 0), .int (zI k), .int (zI m), .int (zI o)] σ (fun z σ' => z = s_closest V k m o ∧ zCq σ σ' V) := by
  refine z_Tp_of (cc := cX5_closest) (maxL := 4) (ret := (some .int)) (own := RX5) (lv0 := [some (.ref (a 0)), some (.int (zI k)), some (.int (zI m)), some (.int (zI o))]) hA (by decide) rfl (Nat.le_of_ble_eq_true rfl) rfl ?_
  intro pg e s mm below meth c X M
  obtain ⟨⟨hv0, hv1, hv2, hv3, hv4, hv5⟩, hvm, hvb, hvk, hvc, hvd⟩ := id hV
  obtain ⟨⟨f0, f1, f2, f3, f4, f5⟩, hm, hp⟩ := id hS
  have hk0 := hP.1
  refine r_aload0 X dX5_closest_0 ?_
  refine r_get X 0 dX5_closest_1 z_c0 in_X5 tw_236 (by decide) rfl rfl (by decide) ?_
  refine r_iload1 X dX5_closest_4 ?_
  refine r_callVi (n := 1) X (c_X4_hasPicture l X.2.2.1 _ 1 (Or.inl rfl) _ ⟨by omega, by omega⟩ ⟨by omega, by omega⟩) dX5_closest_5 tw_293 tw_294 tw_295 tw_41 tw_296 (z_cShow (Or.inl rfl)) (by decide) rfl rfl (Nat.le_of_ble_eq_true rfl) ⟨by decide, by decide⟩ (by decide +kernel) rfl ?_
  refine r_if_eqB (tgt := 42) X dX5_closest_8 (fun h8 => ?_) (fun h8 => ?_)
  · refine r_iconst X dX5_closest_42 ?_
    exact r_iretp X M dX5_closest_43 ⟨by unfold s_closest; (repeat' split) <;> omega, by first | exact hq.1 | exact zCq.refl hS hP h62⟩
  · refine r_iload1 X dX5_closest_11 ?_
    refine r_if_eq (tgt := 42) X dX5_closest_12 ⟨by omega, by omega⟩ (fun h12 => ?_) (fun h12 => ?_)
    · refine r_iconst X dX5_closest_42 ?_
      exact r_iretp X M dX5_closest_43 ⟨by unfold s_closest; (repeat' split) <;> omega, by first | exact hq.1 | exact zCq.refl hS hP h62⟩
    · refine r_aload0 X dX5_closest_15 ?_
      refine r_get X 0 dX5_closest_16 z_c0 in_X5 tw_236 (by decide) rfl rfl (by decide) ?_
      refine r_iload2 X dX5_closest_19 ?_
      refine r_callVi (n := 1) X (c_X4_hasMarcher l X.2.2.1 _ 1 (Or.inl rfl) _ ⟨by omega, by omega⟩ ⟨by omega, by omega⟩) dX5_closest_20 tw_273 tw_274 tw_275 tw_41 tw_276 (z_cShow (Or.inl rfl)) (by decide) rfl rfl (Nat.le_of_ble_eq_true rfl) ⟨by decide, by decide⟩ (by decide +kernel) rfl ?_
      refine r_if_eqB (tgt := 42) X dX5_closest_23 (fun h23 => ?_) (fun h23 => ?_)
      · refine r_iconst X dX5_closest_42 ?_
        exact r_iretp X M dX5_closest_43 ⟨by unfold s_closest; (repeat' split) <;> omega, by first | exact hq.1 | exact zCq.refl hS hP h62⟩
      · refine r_aload0 X dX5_closest_26 ?_
        refine r_get X 0 dX5_closest_27 z_c0 in_X5 tw_236 (by decide) rfl rfl (by decide) ?_
        refine r_iload3 X dX5_closest_30 ?_
        refine r_callVi (n := 1) X (c_X4_hasMarcher l X.2.2.1 _ 1 (Or.inl rfl) _ ⟨by omega, by omega⟩ ⟨by omega, by omega⟩) dX5_closest_31 tw_273 tw_274 tw_275 tw_41 tw_276 (z_cShow (Or.inl rfl)) (by decide) rfl rfl (Nat.le_of_ble_eq_true rfl) ⟨by decide, by decide⟩ (by decide +kernel) rfl ?_
        refine r_if_eqB (tgt := 42) X dX5_closest_34 (fun h34 => ?_) (fun h34 => ?_)
        · refine r_iconst X dX5_closest_42 ?_
          exact r_iretp X M dX5_closest_43 ⟨by unfold s_closest; (repeat' split) <;> omega, by first | exact hq.1 | exact zCq.refl hS hP h62⟩
        · refine r_iload2 X dX5_closest_37 ?_
          refine r_iload3 X dX5_closest_38 ?_
          refine r_icmp_ne (tgt := 44) X dX5_closest_39 ⟨⟨by omega, by omega⟩, by omega, by omega⟩ (fun h39 => ?_) (fun h39 => ?_)
          · have qm := hm m (by omega) (by omega)
            have q1 := hvm m (by omega) (by omega)
            rw [show 7 + 2 * m = 6 + (2 * m + 1) by omega] at q1
            have qo := hm o (by omega) (by omega)
            have q2 := hvm o (by omega) (by omega)
            rw [show 7 + 2 * o = 6 + (2 * o + 1) by omega] at q2
            refine r_aload0 X dX5_closest_44 ?_
            refine r_get X 0 dX5_closest_45 z_c0 in_X5 tw_236 (by decide) rfl rfl (by decide) ?_
            refine r_get X 1 dX5_closest_48 (z_cShow (Or.inl rfl)) in_X4 tw_102 (by decide) rfl rfl (by decide) ?_
            refine r_iload2 X dX5_closest_51 ?_
            refine r_zald X dX5_closest_52 (z_cShow2 (Or.inl rfl)) (by decide) ⟨by omega, by omega⟩ ?_
            refine r_eqi qm.2 ?_
            refine r_if_ne (tgt := 68) X dX5_closest_53 ⟨by omega, by omega⟩ (fun h53 => ?_) (fun h53 => ?_)
            · refine r_bipush X dX5_closest_68 (by decide +kernel) ?_
              exact r_iretp X M dX5_closest_70 ⟨by unfold s_closest; (repeat' split) <;> omega, by first | exact hq.1 | exact zCq.refl hS hP h62⟩
            · refine r_aload0 X dX5_closest_56 ?_
              refine r_get X 0 dX5_closest_57 z_c0 in_X5 tw_236 (by decide) rfl rfl (by decide) ?_
              refine r_get X 1 dX5_closest_60 (z_cShow (Or.inl rfl)) in_X4 tw_102 (by decide) rfl rfl (by decide) ?_
              refine r_iload3 X dX5_closest_63 ?_
              refine r_zald X dX5_closest_64 (z_cShow2 (Or.inl rfl)) (by decide) ⟨by omega, by omega⟩ ?_
              refine r_eqi qo.2 ?_
              refine r_if_eq (tgt := 71) X dX5_closest_65 ⟨by omega, by omega⟩ (fun h65 => ?_) (fun h65 => ?_)
              · refine r_aload0 X dX5_closest_71 ?_
                refine r_get X 4 dX5_closest_72 z_c0 in_X5 tw_240 (by decide) rfl rfl (by decide) ?_
                refine r_aload0 X dX5_closest_75 ?_
                refine r_get X 0 dX5_closest_76 z_c0 in_X5 tw_236 (by decide) rfl rfl (by decide) ?_
                refine r_iload1 X dX5_closest_79 ?_
                refine r_iconst X dX5_closest_80 ?_
                refine r_callVq (n := 3) X (c_X1_settleTo l X.2.2.1 _ 52 (Or.inl rfl) _ ⟨by omega, by omega⟩ (-1) ⟨by omega, by omega⟩ V hV hS.see hP.1 (hS.ill hV) (hS.i01 hV) hP.2) dX5_closest_81 tw_394 tw_395 tw_396 tw_45 tw_397 (z_cPlan (Or.inl rfl)) (by decide) rfl rfl (Nat.le_of_ble_eq_true rfl) ⟨by decide, by decide⟩ (by decide +kernel) rfl (fun σ2 h2 => ?_)
                have hq := sett_q hV hS hP h62 ⟨by omega, by omega⟩ h2
                have hlt := hq.2
                have h01 := vfd_01 hV (k := k) (by omega)
                refine r_aload0 X dX5_closest_84 ?_
                refine r_get X 4 dX5_closest_85 z_c0 in_X5 tw_240 (by decide) rfl rfl (by decide) ?_
                refine r_get X 0 dX5_closest_88 (z_cPlan (Or.inl rfl)) in_X1 tw_215 (by decide) rfl rfl (by decide) ?_
                refine r_iload1 X dX5_closest_91 ?_
                refine r_zald X dX5_closest_92 (z_cPlan1 (Or.inl rfl)) (by decide) ⟨by omega, by omega⟩ ?_
                refine r_eqi (hq.1.2.1.fd (k := k) (by omega) (by omega) (by omega)) ?_
                refine r_if_ne (tgt := 99) X dX5_closest_93 ⟨by omega, by omega⟩ (fun h93 => ?_) (fun h93 => ?_)
                · have hP2 := hq.1.2.1
                  have hf1 : vfd V k = 1 := by omega
                  have hfp := vfd_pred (V := V) (k := k) (by omega) hf1
                  have m0 : V (6 + (2 * m + 1)) = 0 := by omega
                  have o0 : V (6 + (2 * o + 1)) = 0 := by omega
                  have s1 := sd_in hV (k := k) (m := m) (by omega) hf1 (by omega) (by omega) m0
                  have s2 := sd_in hV (k := k) (m := o) (by omega) hf1 (by omega) (by omega) o0
                  have s3 := sd_in hV (k := k - 1) (m := m) (by omega) hfp (by omega) (by omega) m0
                  have s4 := sd_in hV (k := k - 1) (m := o) (by omega) hfp (by omega) (by omega) o0
                  have b1 := vxy_in hV (k := k) (d := sd V k m) (by omega) (by omega)
                  have b2 := vxy_in hV (k := k) (d := sd V k o) (by omega) (by omega)
                  have b3 := vxy_in hV (k := k - 1) (d := sd V (k - 1) m) (by omega) (by omega)
                  have b4 := vxy_in hV (k := k - 1) (d := sd V (k - 1) o) (by omega) (by omega)
                  have hcc := vn_in hV (k := k) (by omega)
                  have hc1 : 1 ≤ vc V k := hvc k (by omega) (by omega)
                  have g1m : σ2 (52 + 5 + (k).toNat) m = sd V (k) m := by
                    have := hP2.gv (K := (k).toNat) (m := m) (by omega) (by omega) (by rw [show (((k).toNat : Nat) : Int) = k by omega]; exact hf1) (by omega) (by omega) (by omega)
                    rwa [show (((k).toNat : Nat) : Int) = k by omega] at this
                  have g1o : σ2 (52 + 5 + (k).toNat) o = sd V (k) o := by
                    have := hP2.gv (K := (k).toNat) (m := o) (by omega) (by omega) (by rw [show (((k).toNat : Nat) : Int) = k by omega]; exact hf1) (by omega) (by omega) (by omega)
                    rwa [show (((k).toNat : Nat) : Int) = k by omega] at this
                  have g0m : σ2 (52 + 5 + (k - 1).toNat) m = sd V (k - 1) m := by
                    have := hP2.gv (K := (k - 1).toNat) (m := m) (by omega) (by omega) (by rw [show (((k - 1).toNat : Nat) : Int) = k - 1 by omega]; exact hfp) (by omega) (by omega) (by omega)
                    rwa [show (((k - 1).toNat : Nat) : Int) = k - 1 by omega] at this
                  have g0o : σ2 (52 + 5 + (k - 1).toNat) o = sd V (k - 1) o := by
                    have := hP2.gv (K := (k - 1).toNat) (m := o) (by omega) (by omega) (by rw [show (((k - 1).toNat : Nat) : Int) = k - 1 by omega]; exact hfp) (by omega) (by omega) (by omega)
                    rwa [show (((k - 1).toNat : Nat) : Int) = k - 1 by omega] at this
                  obtain ⟨K, hK9⟩ : ∃ K : Nat, k = (K : Int) := ⟨k.toNat, by omega⟩
                  have hK : K < 5 := by omega
                  have hcr : σ2 (1 + 4 + 4 * K) 4 = vc V k := by rw [hK9]; exact (hq.1.1.2.2 K hK).2.1 (by omega)
                  refine r_aload0 X dX5_closest_99 ?_
                  refine r_get X 0 dX5_closest_100 z_c0 in_X5 tw_236 (by decide) rfl rfl (by decide) ?_
                  refine r_get X 3 dX5_closest_103 (z_cShow (Or.inl rfl)) in_X4 tw_108 (by decide) rfl rfl (by decide) ?_
                  refine r_iload1 X dX5_closest_106 ?_
                  refine r_eqi hK9 ?_
                  refine r_aald (k := K) X dX5_closest_107 (Or.inl rfl) hK ?_
                  refine r_get X 4 dX5_closest_108 (z_cPic (z_pic.mk (Or.inl rfl) hK)) in_X0 tw_83 (Nat.lt_of_le_of_lt (Nat.le_add_right _ 3) (z_pic.lt (z_pic.mk (Or.inl rfl) hK))) rfl rfl (by decide) ?_
                  refine r_eqi hcr ?_
                  refine r_aload0 X dX5_closest_111 ?_
                  refine r_iload1 X dX5_closest_112 ?_
                  refine r_iconst X dX5_closest_113 ?_
                  refine r_isub X dX5_closest_114 ?_
                  refine r_iload2 X dX5_closest_115 ?_
                  refine r_callVi (n := 2) X (c_X5_xIn l X.2.2.1 _ (k - 1) m (sd V (k - 1) m) ⟨by omega, by omega⟩ ⟨by omega, by omega⟩ V hV hq.1.1.see g0m ⟨by omega, by omega⟩) dX5_closest_116 tw_481 tw_483 tw_10 tw_40 tw_484 z_c0 (by decide) rfl rfl (Nat.le_of_ble_eq_true rfl) ⟨by decide, by decide⟩ (by decide +kernel) rfl ?_
                  refine r_aload0 X dX5_closest_119 ?_
                  refine r_iload1 X dX5_closest_120 ?_
                  refine r_iconst X dX5_closest_121 ?_
                  refine r_isub X dX5_closest_122 ?_
                  refine r_iload3 X dX5_closest_123 ?_
                  refine r_callVi (n := 2) X (c_X5_xIn l X.2.2.1 _ (k - 1) o (sd V (k - 1) o) ⟨by omega, by omega⟩ ⟨by omega, by omega⟩ V hV hq.1.1.see g0o ⟨by omega, by omega⟩) dX5_closest_124 tw_481 tw_483 tw_10 tw_40 tw_484 z_c0 (by decide) rfl rfl (Nat.le_of_ble_eq_true rfl) ⟨by decide, by decide⟩ (by decide +kernel) rfl ?_
                  refine r_isub X dX5_closest_127 ?_
                  refine r_aload0 X dX5_closest_128 ?_
                  refine r_iload1 X dX5_closest_129 ?_
                  refine r_iconst X dX5_closest_130 ?_
                  refine r_isub X dX5_closest_131 ?_
                  refine r_iload2 X dX5_closest_132 ?_
                  refine r_callVi (n := 2) X (c_X5_yIn l X.2.2.1 _ (k - 1) m (sd V (k - 1) m) ⟨by omega, by omega⟩ ⟨by omega, by omega⟩ V hV hq.1.1.see g0m ⟨by omega, by omega⟩) dX5_closest_133 tw_485 tw_487 tw_11 tw_40 tw_488 z_c0 (by decide) rfl rfl (Nat.le_of_ble_eq_true rfl) ⟨by decide, by decide⟩ (by decide +kernel) rfl ?_
                  refine r_aload0 X dX5_closest_136 ?_
                  refine r_iload1 X dX5_closest_137 ?_
                  refine r_iconst X dX5_closest_138 ?_
                  refine r_isub X dX5_closest_139 ?_
                  refine r_iload3 X dX5_closest_140 ?_
                  refine r_callVi (n := 2) X (c_X5_yIn l X.2.2.1 _ (k - 1) o (sd V (k - 1) o) ⟨by omega, by omega⟩ ⟨by omega, by omega⟩ V hV hq.1.1.see g0o ⟨by omega, by omega⟩) dX5_closest_141 tw_485 tw_487 tw_11 tw_40 tw_488 z_c0 (by decide) rfl rfl (Nat.le_of_ble_eq_true rfl) ⟨by decide, by decide⟩ (by decide +kernel) rfl ?_
                  refine r_isub X dX5_closest_144 ?_
                  refine r_aload0 X dX5_closest_145 ?_
                  refine r_iload1 X dX5_closest_146 ?_
                  refine r_iload2 X dX5_closest_147 ?_
                  refine r_callVi (n := 2) X (c_X5_xIn l X.2.2.1 _ k m (sd V k m) ⟨by omega, by omega⟩ ⟨by omega, by omega⟩ V hV hq.1.1.see g1m ⟨by omega, by omega⟩) dX5_closest_148 tw_481 tw_483 tw_10 tw_40 tw_484 z_c0 (by decide) rfl rfl (Nat.le_of_ble_eq_true rfl) ⟨by decide, by decide⟩ (by decide +kernel) rfl ?_
                  refine r_aload0 X dX5_closest_151 ?_
                  refine r_iload1 X dX5_closest_152 ?_
                  refine r_iload3 X dX5_closest_153 ?_
                  refine r_callVi (n := 2) X (c_X5_xIn l X.2.2.1 _ k o (sd V k o) ⟨by omega, by omega⟩ ⟨by omega, by omega⟩ V hV hq.1.1.see g1o ⟨by omega, by omega⟩) dX5_closest_154 tw_481 tw_483 tw_10 tw_40 tw_484 z_c0 (by decide) rfl rfl (Nat.le_of_ble_eq_true rfl) ⟨by decide, by decide⟩ (by decide +kernel) rfl ?_
                  refine r_isub X dX5_closest_157 ?_
                  refine r_aload0 X dX5_closest_158 ?_
                  refine r_iload1 X dX5_closest_159 ?_
                  refine r_iload2 X dX5_closest_160 ?_
                  refine r_callVi (n := 2) X (c_X5_yIn l X.2.2.1 _ k m (sd V k m) ⟨by omega, by omega⟩ ⟨by omega, by omega⟩ V hV hq.1.1.see g1m ⟨by omega, by omega⟩) dX5_closest_161 tw_485 tw_487 tw_11 tw_40 tw_488 z_c0 (by decide) rfl rfl (Nat.le_of_ble_eq_true rfl) ⟨by decide, by decide⟩ (by decide +kernel) rfl ?_
                  refine r_aload0 X dX5_closest_164 ?_
                  refine r_iload1 X dX5_closest_165 ?_
                  refine r_iload3 X dX5_closest_166 ?_
                  refine r_callVi (n := 2) X (c_X5_yIn l X.2.2.1 _ k o (sd V k o) ⟨by omega, by omega⟩ ⟨by omega, by omega⟩ V hV hq.1.1.see g1o ⟨by omega, by omega⟩) dX5_closest_167 tw_485 tw_487 tw_11 tw_40 tw_488 z_c0 (by decide) rfl rfl (Nat.le_of_ble_eq_true rfl) ⟨by decide, by decide⟩ (by decide +kernel) rfl ?_
                  refine r_isub X dX5_closest_170 ?_
                  refine r_callSi (n := 5) X (c_X5_leastStep l X.2.2.1 _ _ _ _ _ _ ⟨by omega, by omega⟩ ⟨by omega, by omega⟩ ⟨by omega, by omega⟩ ⟨by omega, by omega⟩ ⟨by omega, by omega⟩) dX5_closest_171 tw_496 tw_454 tw_40 tw_455 rfl (Nat.le_of_ble_eq_true rfl) ⟨by decide, by decide⟩ (by decide +kernel) rfl ?_
                  exact r_iretp X M dX5_closest_174 ⟨by unfold s_closest; rw [if_pos (by omega), if_neg (by omega), if_pos hf1]; rfl, hq.1⟩
                · refine r_bipush X dX5_closest_96 (by decide +kernel) ?_
                  exact r_iretp X M dX5_closest_98 ⟨by unfold s_closest; (repeat' split) <;> omega, by first | exact hq.1 | exact zCq.refl hS hP h62⟩
              · refine r_bipush X dX5_closest_68 (by decide +kernel) ?_
                exact r_iretp X M dX5_closest_70 ⟨by unfold s_closest; (repeat' split) <;> omega, by first | exact hq.1 | exact zCq.refl hS hP h62⟩
          · refine r_iconst X dX5_closest_42 ?_
            exact r_iretp X M dX5_closest_43 ⟨by unfold s_closest; (repeat' split) <;> omega, by first | exact hq.1 | exact zCq.refl hS hP h62⟩

set_option maxRecDepth 100000 in
set_option maxHeartbeats 4000000 in
theorem c_X5_ready (l : Launch) {D : va_G} {κ : Nat → ClassId} {a : Nat → Nat} {A : Nat → Prop} (hA : z_aD a A) (σ : zSt) (V : zV) (hV : v_ok V) (hS : zShow σ 1 V) (hP : zPl σ V 52) (h62 : 0 ≤ σ 62 5 ∧ σ 62 5 ≤ 5) : z_Tp l D κ a A yX5_ready cX5_ready 3 (some .int) 13 [.ref (a 0)] σ (fun z σ' => z = v_rdy V (V 1).toNat ∧ zCq σ σ' V) := by
  refine z_Tp_of (cc := cX5_ready) (maxL := 3) (ret := (some .int)) (own := RX5) (lv0 := [some (.ref (a 0)), none, none]) hA (by decide) rfl (Nat.le_of_ble_eq_true rfl) rfl ?_
  intro pg e s mm below meth c X M
  obtain ⟨⟨hv0, hv1, hv2, hv3, hv4, hv5⟩, hvm, hvb, hvk, hvc, hvd⟩ := id hV
  obtain ⟨⟨f0, f1, f2, f3, f4, f5⟩, hm, hp⟩ := id hS
  have hk0 := hP.1
  refine r_aload0 X dX5_ready_0 ?_
  refine r_get X 4 dX5_ready_1 z_c0 in_X5 tw_240 (by decide) rfl rfl (by decide) ?_
  refine r_aload0 X dX5_ready_4 ?_
  refine r_get X 0 dX5_ready_5 z_c0 in_X5 tw_236 (by decide) rfl rfl (by decide) ?_
  refine r_aload0 X dX5_ready_8 ?_
  refine r_get X 0 dX5_ready_9 z_c0 in_X5 tw_236 (by decide) rfl rfl (by decide) ?_
  refine r_get X 4 dX5_ready_12 (z_cShow (Or.inl rfl)) in_X4 tw_112 (by decide) rfl rfl (by decide) ?_
  refine r_eqi f1 ?_
  refine r_iconst X dX5_ready_15 ?_
  refine r_isub X dX5_ready_16 ?_
  refine r_iconst X dX5_ready_17 ?_
  refine r_callVq (n := 3) X (c_X1_settleTo l X.2.2.1 _ 52 (Or.inl rfl) _ ⟨by omega, by omega⟩ (-1) ⟨by omega, by omega⟩ V hV hS.see hP.1 (hS.ill hV) (hS.i01 hV) hP.2) dX5_ready_18 tw_394 tw_395 tw_396 tw_45 tw_397 (z_cPlan (Or.inl rfl)) (by decide) rfl rfl (Nat.le_of_ble_eq_true rfl) ⟨by decide, by decide⟩ (by decide +kernel) rfl (fun σ2 h2 => ?_)
  have hq := sett_q hV hS hP h62 ⟨by omega, by omega⟩ h2
  have hlt := hq.2
  refine r_iconst X dX5_ready_21 ?_
  refine r_istore1 X dX5_ready_22 ?_
  refine r_iconst X dX5_ready_23 ?_
  refine r_istore2 X dX5_ready_24 ?_
  have L : ∀ (fu : Nat) (k n1 : Int), (V 1 - k) < (fu : Int) → 0 ≤ k → k ≤ V 1 → n1 = v_rdy V k.toNat → z_G pg l e (z_rm 13) s mm ([.ref (a 0)] : List Value).toArray below meth c 3 D κ a A 0 0 (MQ below (z_Qp D κ a A (fun z σ' => z = v_rdy V (V 1).toNat ∧ zCq σ σ' V)) ([.ref (a 0)] : List Value).toArray s 0 0 A) σ2 [some (.ref (a 0)), some (.int (zI n1)), some (.int (zI k))] 25 [] := by
    intro fu
    induction fu with
    | zero =>
      intro k n1 hn k0 k1 hn1
      omega
    | succ fu ihL =>
      intro k n1 hn k0 k1 hn1
      refine r_iload2 X dX5_ready_25 ?_
      refine r_aload0 X dX5_ready_26 ?_
      refine r_get X 0 dX5_ready_27 z_c0 in_X5 tw_236 (by decide) rfl rfl (by decide) ?_
      refine r_get X 4 dX5_ready_30 (z_cShow (Or.inl rfl)) in_X4 tw_112 (by decide) rfl rfl (by decide) ?_
      refine r_eqi hq.1.1.1.2.1 ?_
      refine r_icmp_ge (tgt := 57) X dX5_ready_33 ⟨⟨by omega, by omega⟩, by omega, by omega⟩ (fun h33 => ?_) (fun h33 => ?_)
      · refine r_iload1 X dX5_ready_57 ?_
        exact r_iretp X M dX5_ready_58 ⟨by rw [hn1, show k = V 1 by omega], hq.1⟩
      · have h01 := vfd_01 hV (k := k) (by omega)
        refine r_aload0 X dX5_ready_36 ?_
        refine r_get X 4 dX5_ready_37 z_c0 in_X5 tw_240 (by decide) rfl rfl (by decide) ?_
        refine r_get X 0 dX5_ready_40 (z_cPlan (Or.inl rfl)) in_X1 tw_215 (by decide) rfl rfl (by decide) ?_
        refine r_iload2 X dX5_ready_43 ?_
        refine r_zald X dX5_ready_44 (z_cPlan1 (Or.inl rfl)) (by decide) ⟨by omega, by omega⟩ ?_
        refine r_eqi (hq.1.2.1.fd (k := k) (by omega) (by omega) (by omega)) ?_
        refine r_if_eq (tgt := 51) X dX5_ready_45 ⟨by omega, by omega⟩ (fun h45 => ?_) (fun h45 => ?_)
        · refine r_iinc2 X dX5_ready_51 ?_
          refine r_goto (tgt := 25) X dX5_ready_54 (by decide) ?_
          first
          | exact ihL (k + 1) _ (by omega) (by omega) (by omega) (by rw [show (k + 1).toNat = k.toNat + 1 by omega]; unfold v_rdy; rw [← hn1]; have h9 : (vS V k.toNat).1 = vfd V k := rfl; omega)
        · have hgs := hq.1.2.1.gs (k := k) (by omega) (by omega) (by omega) (show vfd V k = 1 by omega)
          refine r_iinc1 X dX5_ready_48 ?_
          refine r_iinc2 X dX5_ready_51 ?_
          refine r_goto (tgt := 25) X dX5_ready_54 (by decide) ?_
          first
          | exact ihL (k + 1) _ (by omega) (by omega) (by omega) (by rw [show (k + 1).toNat = k.toNat + 1 by omega]; unfold v_rdy; rw [← hn1]; have h9 : (vS V k.toNat).1 = vfd V k := rfl; omega)
  exact L 8 0 0 (by omega) (by omega) (by omega) rfl

set_option maxRecDepth 100000 in
set_option maxHeartbeats 4000000 in
theorem c_X5_allSteps (l : Launch) {D : va_G} {κ : Nat → ClassId} {a : Nat → Nat} {A : Nat → Prop} (hA : z_aD a A) (σ : zSt) (V : zV) (hV : v_ok V) (hS : zShow σ 1 V) (hP : zPl σ V 52) (h62 : 0 ≤ σ 62 5 ∧ σ 62 5 ≤ 5) : z_Tp l D κ a A yX5_allSteps cX5_allSteps 3 (some .int) 13 [.ref (a 0)] σ (fun z σ' => z = v_sts V (V 1).toNat ∧ zCq σ σ' V) := by
  refine z_Tp_of (cc := cX5_allSteps) (maxL := 3) (ret := (some .int)) (own := RX5) (lv0 := [some (.ref (a 0)), none, none]) hA (by decide) rfl (Nat.le_of_ble_eq_true rfl) rfl ?_
  intro pg e s mm below meth c X M
  obtain ⟨⟨hv0, hv1, hv2, hv3, hv4, hv5⟩, hvm, hvb, hvk, hvc, hvd⟩ := id hV
  obtain ⟨⟨f0, f1, f2, f3, f4, f5⟩, hm, hp⟩ := id hS
  have hk0 := hP.1
  refine r_aload0 X dX5_allSteps_0 ?_
  refine r_get X 4 dX5_allSteps_1 z_c0 in_X5 tw_240 (by decide) rfl rfl (by decide) ?_
  refine r_aload0 X dX5_allSteps_4 ?_
  refine r_get X 0 dX5_allSteps_5 z_c0 in_X5 tw_236 (by decide) rfl rfl (by decide) ?_
  refine r_aload0 X dX5_allSteps_8 ?_
  refine r_get X 0 dX5_allSteps_9 z_c0 in_X5 tw_236 (by decide) rfl rfl (by decide) ?_
  refine r_get X 4 dX5_allSteps_12 (z_cShow (Or.inl rfl)) in_X4 tw_112 (by decide) rfl rfl (by decide) ?_
  refine r_eqi f1 ?_
  refine r_iconst X dX5_allSteps_15 ?_
  refine r_isub X dX5_allSteps_16 ?_
  refine r_iconst X dX5_allSteps_17 ?_
  refine r_callVq (n := 3) X (c_X1_settleTo l X.2.2.1 _ 52 (Or.inl rfl) _ ⟨by omega, by omega⟩ (-1) ⟨by omega, by omega⟩ V hV hS.see hP.1 (hS.ill hV) (hS.i01 hV) hP.2) dX5_allSteps_18 tw_394 tw_395 tw_396 tw_45 tw_397 (z_cPlan (Or.inl rfl)) (by decide) rfl rfl (Nat.le_of_ble_eq_true rfl) ⟨by decide, by decide⟩ (by decide +kernel) rfl (fun σ2 h2 => ?_)
  have hq := sett_q hV hS hP h62 ⟨by omega, by omega⟩ h2
  have hlt := hq.2
  refine r_iconst X dX5_allSteps_21 ?_
  refine r_istore1 X dX5_allSteps_22 ?_
  refine r_iconst X dX5_allSteps_23 ?_
  refine r_istore2 X dX5_allSteps_24 ?_
  have L : ∀ (fu : Nat) (k n1 : Int), (V 1 - k) < (fu : Int) → 0 ≤ k → k ≤ V 1 → n1 = v_sts V k.toNat → z_G pg l e (z_rm 13) s mm ([.ref (a 0)] : List Value).toArray below meth c 3 D κ a A 0 0 (MQ below (z_Qp D κ a A (fun z σ' => z = v_sts V (V 1).toNat ∧ zCq σ σ' V)) ([.ref (a 0)] : List Value).toArray s 0 0 A) σ2 [some (.ref (a 0)), some (.int (zI n1)), some (.int (zI k))] 25 [] := by
    intro fu
    induction fu with
    | zero =>
      intro k n1 hn k0 k1 hn1
      omega
    | succ fu ihL =>
      intro k n1 hn k0 k1 hn1
      refine r_iload2 X dX5_allSteps_25 ?_
      refine r_aload0 X dX5_allSteps_26 ?_
      refine r_get X 0 dX5_allSteps_27 z_c0 in_X5 tw_236 (by decide) rfl rfl (by decide) ?_
      refine r_get X 4 dX5_allSteps_30 (z_cShow (Or.inl rfl)) in_X4 tw_112 (by decide) rfl rfl (by decide) ?_
      refine r_eqi hq.1.1.1.2.1 ?_
      refine r_icmp_ge (tgt := 66) X dX5_allSteps_33 ⟨⟨by omega, by omega⟩, by omega, by omega⟩ (fun h33 => ?_) (fun h33 => ?_)
      · refine r_iload1 X dX5_allSteps_66 ?_
        exact r_iretp X M dX5_allSteps_67 ⟨by rw [hn1, show k = V 1 by omega], hq.1⟩
      · have h01 := vfd_01 hV (k := k) (by omega)
        refine r_aload0 X dX5_allSteps_36 ?_
        refine r_get X 4 dX5_allSteps_37 z_c0 in_X5 tw_240 (by decide) rfl rfl (by decide) ?_
        refine r_get X 0 dX5_allSteps_40 (z_cPlan (Or.inl rfl)) in_X1 tw_215 (by decide) rfl rfl (by decide) ?_
        refine r_iload2 X dX5_allSteps_43 ?_
        refine r_zald X dX5_allSteps_44 (z_cPlan1 (Or.inl rfl)) (by decide) ⟨by omega, by omega⟩ ?_
        refine r_eqi (hq.1.2.1.fd (k := k) (by omega) (by omega) (by omega)) ?_
        refine r_if_eq (tgt := 60) X dX5_allSteps_45 ⟨by omega, by omega⟩ (fun h45 => ?_) (fun h45 => ?_)
        · refine r_iinc2 X dX5_allSteps_60 ?_
          refine r_goto (tgt := 25) X dX5_allSteps_63 (by decide) ?_
          first
          | exact ihL (k + 1) _ (by omega) (by omega) (by omega) (by rw [show (k + 1).toNat = k.toNat + 1 by omega]; unfold v_sts; rw [← hn1, if_neg (fun q => by have q2 : vfd V k = 1 := q; omega)]; omega)
          | exact ihL (k + 1) _ (by omega) (by omega) (by omega) (by rw [show (k + 1).toNat = k.toNat + 1 by omega]; unfold v_sts; rw [← hn1, if_pos (show vfd V k = 1 by omega)])
        · have hgs := hq.1.2.1.gs (k := k) (by omega) (by omega) (by omega) (show vfd V k = 1 by omega)
          refine r_iload1 X dX5_allSteps_48 ?_
          refine r_aload0 X dX5_allSteps_49 ?_
          refine r_get X 4 dX5_allSteps_50 z_c0 in_X5 tw_240 (by decide) rfl rfl (by decide) ?_
          refine r_get X 2 dX5_allSteps_53 (z_cPlan (Or.inl rfl)) in_X1 tw_219 (by decide) rfl rfl (by decide) ?_
          refine r_iload2 X dX5_allSteps_56 ?_
          refine r_iald X dX5_allSteps_57 (z_cPlan3 (Or.inl rfl)) (by decide) ⟨by omega, by omega⟩ ?_
          refine r_eqi hgs.2 ?_
          refine r_iadd X dX5_allSteps_58 ?_
          refine r_istore1 X dX5_allSteps_59 ?_
          refine r_iinc2 X dX5_allSteps_60 ?_
          refine r_goto (tgt := 25) X dX5_allSteps_63 (by decide) ?_
          first
          | exact ihL (k + 1) _ (by omega) (by omega) (by omega) (by rw [show (k + 1).toNat = k.toNat + 1 by omega]; unfold v_sts; rw [← hn1, if_neg (fun q => by have q2 : vfd V k = 1 := q; omega)]; omega)
          | exact ihL (k + 1) _ (by omega) (by omega) (by omega) (by rw [show (k + 1).toNat = k.toNat + 1 by omega]; unfold v_sts; rw [← hn1, if_pos (show vfd V k = 1 by omega)])
  exact L 8 0 0 (by omega) (by omega) (by omega) rfl

set_option maxRecDepth 100000 in
set_option maxHeartbeats 4000000 in
theorem c_X5_allDots (l : Launch) {D : va_G} {κ : Nat → ClassId} {a : Nat → Nat} {A : Nat → Prop} (hA : z_aD a A) (σ : zSt) (V : zV) (hV : v_ok V) (hS : zShow σ 1 V) : z_Ti l D κ a A yX5_allDots cX5_allDots 3 (some .int) 0 [.ref (a 0)] σ (v_dts V (V 1).toNat) (σ) := by
  refine z_Ti_of (cc := cX5_allDots) (maxL := 3) (ret := (some .int)) (own := RX5) (lv0 := [some (.ref (a 0)), none, none]) hA (by decide) rfl (Nat.le_of_ble_eq_true rfl) rfl ?_
  intro pg e s mm below meth c X M
  obtain ⟨⟨hv0, hv1, hv2, hv3, hv4, hv5⟩, hvm, hvb, hvk, hvc, hvd⟩ := id hV
  obtain ⟨⟨f0, f1, f2, f3, f4, f5⟩, hm, hp⟩ := id hS
  refine r_iconst X dX5_allDots_0 ?_
  refine r_istore1 X dX5_allDots_1 ?_
  refine r_iconst X dX5_allDots_2 ?_
  refine r_istore2 X dX5_allDots_3 ?_
  have L : ∀ (fu : Nat) (k n1 : Int), (V 1 - k) < (fu : Int) → 0 ≤ k → k ≤ V 1 → n1 = v_dts V k.toNat → z_G pg l e (z_rm 0) s mm ([.ref (a 0)] : List Value).toArray below meth c 3 D κ a A 0 0 (MQ below (z_Qi D κ a A (v_dts V (V 1).toNat) (σ)) ([.ref (a 0)] : List Value).toArray s 0 0 A) σ [some (.ref (a 0)), some (.int (zI n1)), some (.int (zI k))] 4 [] := by
    intro fu
    induction fu with
    | zero =>
      intro k n1 hn k0 k1 hn1
      omega
    | succ fu ihL =>
      intro k n1 hn k0 k1 hn1
      refine r_iload2 X dX5_allDots_4 ?_
      refine r_aload0 X dX5_allDots_5 ?_
      refine r_get X 0 dX5_allDots_6 z_c0 in_X5 tw_236 (by decide) rfl rfl (by decide) ?_
      refine r_get X 4 dX5_allDots_9 (z_cShow (Or.inl rfl)) in_X4 tw_112 (by decide) rfl rfl (by decide) ?_
      refine r_eqi f1 ?_
      refine r_icmp_ge (tgt := 36) X dX5_allDots_12 ⟨⟨by omega, by omega⟩, by omega, by omega⟩ (fun h12 => ?_) (fun h12 => ?_)
      · refine r_iload1 X dX5_allDots_36 ?_
        exact r_iret X M dX5_allDots_37 (by rw [hn1, show k = V 1 by omega]) rfl
      · obtain ⟨K, rfl⟩ : ∃ K : Nat, k = (K : Int) := ⟨k.toNat, by omega⟩
        have hK : K < 5 := by omega
        have hpk := hp K hK
        have hnn := vn_in hV (k := (K : Int)) (by omega)
        refine r_iload1 X dX5_allDots_15 ?_
        refine r_aload0 X dX5_allDots_16 ?_
        refine r_get X 0 dX5_allDots_17 z_c0 in_X5 tw_236 (by decide) rfl rfl (by decide) ?_
        refine r_get X 3 dX5_allDots_20 (z_cShow (Or.inl rfl)) in_X4 tw_108 (by decide) rfl rfl (by decide) ?_
        refine r_iload2 X dX5_allDots_23 ?_
        refine r_aald (k := K) X dX5_allDots_24 (Or.inl rfl) hK ?_
        refine r_get X 3 dX5_allDots_25 (z_cPic (z_pic.mk (Or.inl rfl) hK)) in_X0 tw_80 (Nat.lt_of_le_of_lt (Nat.le_add_right _ 3) (z_pic.lt (z_pic.mk (Or.inl rfl) hK))) rfl rfl (by decide) ?_
        refine r_eqi (y := vn V (K : Int)) hpk.1 ?_
        refine r_iadd X dX5_allDots_28 ?_
        refine r_istore1 X dX5_allDots_29 ?_
        refine r_iinc2 X dX5_allDots_30 ?_
        refine r_goto (tgt := 4) X dX5_allDots_33 (by decide) ?_
        exact ihL ((K : Int) + 1) _ (by omega) (by omega) (by omega) (by rw [show ((K : Int) + 1).toNat = (K : Int).toNat + 1 by omega]; unfold v_dts; rw [← hn1, show (((K : Int).toNat : Nat) : Int) = (K : Int) by omega])
  exact L 8 0 0 (by omega) (by omega) (by omega) rfl

set_option maxRecDepth 100000 in
set_option maxHeartbeats 4000000 in
theorem c_X5_allSolos (l : Launch) {D : va_G} {κ : Nat → ClassId} {a : Nat → Nat} {A : Nat → Prop} (hA : z_aD a A) (σ : zSt) (V : zV) (hV : v_ok V) (hS : zShow σ 1 V) : z_Ti l D κ a A yX5_allSolos cX5_allSolos 3 (some .int) 1 [.ref (a 0)] σ (v_sls V (V 1).toNat) (σ) := by
  refine z_Ti_of (cc := cX5_allSolos) (maxL := 3) (ret := (some .int)) (own := RX5) (lv0 := [some (.ref (a 0)), none, none]) hA (by decide) rfl (Nat.le_of_ble_eq_true rfl) rfl ?_
  intro pg e s mm below meth c X M
  obtain ⟨⟨hv0, hv1, hv2, hv3, hv4, hv5⟩, hvm, hvb, hvk, hvc, hvd⟩ := id hV
  obtain ⟨⟨f0, f1, f2, f3, f4, f5⟩, hm, hp⟩ := id hS
  refine r_iconst X dX5_allSolos_0 ?_
  refine r_istore1 X dX5_allSolos_1 ?_
  refine r_iconst X dX5_allSolos_2 ?_
  refine r_istore2 X dX5_allSolos_3 ?_
  have L : ∀ (fu : Nat) (k n1 : Int), (V 1 - k) < (fu : Int) → 0 ≤ k → k ≤ V 1 → n1 = v_sls V k.toNat → z_G pg l e (z_rm 1) s mm ([.ref (a 0)] : List Value).toArray below meth c 3 D κ a A 0 0 (MQ below (z_Qi D κ a A (v_sls V (V 1).toNat) (σ)) ([.ref (a 0)] : List Value).toArray s 0 0 A) σ [some (.ref (a 0)), some (.int (zI n1)), some (.int (zI k))] 4 [] := by
    intro fu
    induction fu with
    | zero =>
      intro k n1 hn k0 k1 hn1
      omega
    | succ fu ihL =>
      intro k n1 hn k0 k1 hn1
      refine r_iload2 X dX5_allSolos_4 ?_
      refine r_aload0 X dX5_allSolos_5 ?_
      refine r_get X 0 dX5_allSolos_6 z_c0 in_X5 tw_236 (by decide) rfl rfl (by decide) ?_
      refine r_get X 4 dX5_allSolos_9 (z_cShow (Or.inl rfl)) in_X4 tw_112 (by decide) rfl rfl (by decide) ?_
      refine r_eqi f1 ?_
      refine r_icmp_ge (tgt := 36) X dX5_allSolos_12 ⟨⟨by omega, by omega⟩, by omega, by omega⟩ (fun h12 => ?_) (fun h12 => ?_)
      · refine r_iload1 X dX5_allSolos_36 ?_
        exact r_iret X M dX5_allSolos_37 (by rw [hn1, show k = V 1 by omega]) rfl
      · obtain ⟨K, rfl⟩ : ∃ K : Nat, k = (K : Int) := ⟨k.toNat, by omega⟩
        have hK : K < 5 := by omega
        have hpk := hp K hK
        have hnn := vn_in hV (k := (K : Int)) (by omega)
        have hN7 : σ (1 + 4 + 4 * K) 3 = vn V (K : Int) := hpk.1
        have hz01 : ∀ d : Int, 0 ≤ d → d < 7 → σ (1 + 4 + 4 * K + 3) d = 0 ∨ σ (1 + 4 + 4 * K + 3) d = 1 := fun d d0 d1 => by
          rw [(hpk.2.2 d d0 d1).2.2]
          have h9 := hV.2.2.2.2.2 (7 * (K : Int) + d) (by omega) (by omega)
          rw [show 30 + 3 * (7 * (K : Int) + d) = 28 + (3 * (7 * (K : Int) + d) + 2) by omega] at h9
          omega
        have hslv : ((unf (fun d : Nat => σ (1 + 4 + 4 * K + 3) (d : Int) = 1) (fun _ => 0) 0 (σ (1 + 4 + 4 * K) 3).toNat : Nat) : Int) = ((unf (vso V (K : Int)) (fun _ => 0) 0 (vn V (K : Int)).toNat : Nat) : Int) := by
          rw [hpk.1, unf_c (so' := vso V (K : Int)) (vn V (K : Int)).toNat (fun i hi => by
            show σ (1 + 4 + 4 * K + 3) (i : Int) = 1 ↔ V (28 + (3 * (7 * (K : Int) + (i : Int)) + 2)) = 1
            rw [(hpk.2.2 (i : Int) (by omega) (by omega)).2.2])]
        refine r_iload1 X dX5_allSolos_15 ?_
        refine r_aload0 X dX5_allSolos_16 ?_
        refine r_get X 0 dX5_allSolos_17 z_c0 in_X5 tw_236 (by decide) rfl rfl (by decide) ?_
        refine r_get X 3 dX5_allSolos_20 (z_cShow (Or.inl rfl)) in_X4 tw_108 (by decide) rfl rfl (by decide) ?_
        refine r_iload2 X dX5_allSolos_23 ?_
        refine r_aald (k := K) X dX5_allSolos_24 (Or.inl rfl) hK ?_
        refine r_callVi (n := 0) X (c_X0_solos l X.2.2.1 _ _ (z_pic.mk (Or.inl rfl) hK) ⟨by omega, by omega⟩ hz01) dX5_allSolos_25 tw_525 tw_431 tw_432 tw_42 tw_433 (z_cPic (z_pic.mk (Or.inl rfl) hK)) (Nat.lt_of_le_of_lt (Nat.le_add_right _ 3) (z_pic.lt (z_pic.mk (Or.inl rfl) hK))) rfl rfl (Nat.le_of_ble_eq_true rfl) ⟨by decide, by decide⟩ (by decide +kernel) rfl ?_
        refine r_eqi hslv ?_
        refine r_iadd X dX5_allSolos_28 ?_
        refine r_istore1 X dX5_allSolos_29 ?_
        refine r_iinc2 X dX5_allSolos_30 ?_
        refine r_goto (tgt := 4) X dX5_allSolos_33 (by decide) ?_
        exact ihL ((K : Int) + 1) _ (by omega) (by omega) (by omega) (by rw [show ((K : Int) + 1).toNat = (K : Int).toNat + 1 by omega]; unfold v_sls; rw [← hn1, show (((K : Int).toNat : Nat) : Int) = (K : Int) by omega])
  exact L 8 0 0 (by omega) (by omega) (by omega) rfl

set_option maxRecDepth 100000 in
set_option maxHeartbeats 4000000 in
theorem c_X5_many (l : Launch) {D : va_G} {κ : Nat → ClassId} {a : Nat → Nat} {A : Nat → Prop} (hA : z_aD a A) (σ : zSt) (w : Int) (hw : z_in w) (V : zV) (hV : v_ok V) (hS : zShow σ 1 V) (hP : zPl σ V 52) (h62 : 0 ≤ σ 62 5 ∧ σ 62 5 ≤ 5) : z_Tp l D κ a A yX5_many cX5_many 2 (some .int) 14 [.ref (a 0), .int (zI w)] σ (fun z σ' => z = s_many V w ∧ zCq σ σ' V) := by
  refine z_Tp_of (cc := cX5_many) (maxL := 2) (ret := (some .int)) (own := RX5) (lv0 := [some (.ref (a 0)), some (.int (zI w))]) hA (by decide) rfl (Nat.le_of_ble_eq_true rfl) rfl ?_
  intro pg e s mm below meth c X M
  obtain ⟨⟨hv0, hv1, hv2, hv3, hv4, hv5⟩, hvm, hvb, hvk, hvc, hvd⟩ := id hV
  obtain ⟨⟨f0, f1, f2, f3, f4, f5⟩, hm, hp⟩ := id hS
  have hk0 := hP.1
  refine r_iload1 X dX5_many_0 ?_
  rcases (show w = 0 ∨ w = 1 ∨ w = 2 ∨ w = 3 ∨ w = 4 ∨ w = 5 ∨ (w < 0 ∨ 5 < w) by omega) with rfl | rfl | rfl | rfl | rfl | rfl | hw9
  · refine r_tabIn (tgt := 40) (off := 39) X dX5_many_1 ⟨by omega, by omega⟩ ⟨by omega, by omega⟩ (by decide) (by decide) ?_
    refine r_aload0 X dX5_many_40 ?_
    refine r_get X 0 dX5_many_41 z_c0 in_X5 tw_236 (by decide) rfl rfl (by decide) ?_
    refine r_get X 2 dX5_many_44 (z_cShow (Or.inl rfl)) in_X4 tw_103 (by decide) rfl rfl (by decide) ?_
    refine r_eqi f0 ?_
    exact r_iretp X M dX5_many_47 ⟨by unfold s_many; simp, zCq.refl hS hP h62⟩
  · refine r_tabIn (tgt := 48) (off := 47) X dX5_many_1 ⟨by omega, by omega⟩ ⟨by omega, by omega⟩ (by decide) (by decide) ?_
    refine r_aload0 X dX5_many_48 ?_
    refine r_get X 0 dX5_many_49 z_c0 in_X5 tw_236 (by decide) rfl rfl (by decide) ?_
    refine r_callVi (n := 0) X (c_X4_present l X.2.2.1 _ V hV hS) dX5_many_52 tw_473 tw_474 tw_475 tw_41 tw_476 (z_cShow (Or.inl rfl)) (by decide) rfl rfl (Nat.le_of_ble_eq_true rfl) ⟨by decide, by decide⟩ (by decide +kernel) rfl ?_
    exact r_iretp X M dX5_many_55 ⟨by unfold s_many; simp, zCq.refl hS hP h62⟩
  · refine r_tabIn (tgt := 56) (off := 55) X dX5_many_1 ⟨by omega, by omega⟩ ⟨by omega, by omega⟩ (by decide) (by decide) ?_
    refine r_aload0 X dX5_many_56 ?_
    refine r_get X 0 dX5_many_57 z_c0 in_X5 tw_236 (by decide) rfl rfl (by decide) ?_
    refine r_get X 4 dX5_many_60 (z_cShow (Or.inl rfl)) in_X4 tw_112 (by decide) rfl rfl (by decide) ?_
    refine r_eqi f1 ?_
    exact r_iretp X M dX5_many_63 ⟨by unfold s_many; simp, zCq.refl hS hP h62⟩
  · refine r_tabIn (tgt := 64) (off := 63) X dX5_many_1 ⟨by omega, by omega⟩ ⟨by omega, by omega⟩ (by decide) (by decide) ?_
    refine r_aload0 X dX5_many_64 ?_
    refine r_callVi (n := 0) X (c_X5_allDots l X.2.2.1 _ V hV hS) dX5_many_65 tw_517 tw_519 tw_13 tw_40 tw_520 z_c0 (by decide) rfl rfl (Nat.le_of_ble_eq_true rfl) ⟨by decide, by decide⟩ (by decide +kernel) rfl ?_
    exact r_iretp X M dX5_many_68 ⟨by unfold s_many; simp, zCq.refl hS hP h62⟩
  · refine r_tabIn (tgt := 69) (off := 68) X dX5_many_1 ⟨by omega, by omega⟩ ⟨by omega, by omega⟩ (by decide) (by decide) ?_
    refine r_aload0 X dX5_many_69 ?_
    refine r_callVi (n := 0) X (c_X5_allSolos l X.2.2.1 _ V hV hS) dX5_many_70 tw_521 tw_523 tw_14 tw_40 tw_524 z_c0 (by decide) rfl rfl (Nat.le_of_ble_eq_true rfl) ⟨by decide, by decide⟩ (by decide +kernel) rfl ?_
    exact r_iretp X M dX5_many_73 ⟨by unfold s_many; simp, zCq.refl hS hP h62⟩
  · refine r_tabIn (tgt := 74) (off := 73) X dX5_many_1 ⟨by omega, by omega⟩ ⟨by omega, by omega⟩ (by decide) (by decide) ?_
    refine r_aload0 X dX5_many_74 ?_
    refine r_callVp (n := 0) X (c_X5_allSteps l X.2.2.1 _ V hV hS hP h62) dX5_many_75 tw_526 tw_528 tw_15 tw_40 tw_529 z_c0 (by decide) rfl rfl (Nat.le_of_ble_eq_true rfl) ⟨by decide, by decide⟩ (by decide +kernel) rfl (fun z2 σ2 h2 => ?_)
    exact r_iretp X M dX5_many_78 ⟨by unfold s_many; simp; exact h2.1, h2.2⟩
  · refine r_tabOut (tgt := 79) X dX5_many_1 ⟨by omega, by omega⟩ (by omega) (by decide) ?_
    refine r_iconst X dX5_many_79 ?_
    exact r_iretp X M dX5_many_80 ⟨by unfold s_many; (repeat' split) <;> omega, zCq.refl hS hP h62⟩

