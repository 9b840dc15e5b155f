set_option maxRecDepth 100000 in
set_option maxHeartbeats 4000000 in
theorem c_X0_take (l : Launch) {D : va_G} {κ : Nat → ClassId} {a : Nat → Nat} {A : Nat → Prop} (hA : z_aD a A) (σ : zSt) (K : Nat) (hK : K < 5) (V : zV) (hV : v_ok V) (hS : zShow σ 1 V) (hn : 0 ≤ σ 49 2 ∧ V (18 + (2 * (K : Int) + 1)) + σ 49 2 ≤ 7) : z_Tq l D κ a A yX0_take cX0_take 3 none 0 [.ref (a (1 + 4 + 4 * K)), .ref (a 49)] σ (fun σ' => zC0 σ σ' (u_put V (K : Int) (fun j => wr (σ 50 j)) (fun j => wr (σ 51 j)) (σ 49 2).toNat) ∧ σ' 52 = σ 52) := by
  refine z_Tq_of (cc := cX0_take) (maxL := 3) (ret := none) (own := RX0) (lv0 := [some (.ref (a (1 + 4 + 4 * K))), some (.ref (a 49)), none]) hA (by decide) rfl (Nat.le_of_ble_eq_true rfl) rfl ?_
  intro p e s mm below meth c X M
  obtain ⟨⟨hv0, hv1, hv2, hv3, hv4, hv5⟩, hvm, hvb, hvk, hvc, hvd⟩ := id hV
  obtain ⟨⟨f0, f1, f2, f3, f4, f5⟩, hm, hp⟩ := id hS
  have q1 := hvk (K : Int) (by omega) (by omega)
  rw [show 19 + 2 * (K : Int) = 18 + (2 * (K : Int) + 1) by omega] at q1
  have hq := z_pic.mk (b := 1) (k := K) (Or.inl rfl) hK
  refine r_iconst X dX0_take_0 ?_
  refine r_istore2 X dX0_take_1 ?_
  have L : ∀ (fu : Nat) (i : Int) (σ1 : zSt), (σ 49 2 - i) < (fu : Int) → 0 ≤ i → i ≤ σ 49 2 → zC0 σ σ1 (u_put V (K : Int) (fun j => wr (σ 50 j)) (fun j => wr (σ 51 j)) i.toNat) → σ1 49 = σ 49 → σ1 50 = σ 50 → σ1 51 = σ 51 → σ1 52 = σ 52 → z_G p l e (z_rm 0) s mm ([.ref (a (1 + 4 + 4 * K)), .ref (a 49)] : List Value).toArray below meth c 3 D κ a A 0 0 (MQ below (z_Qq D κ a A (fun σ' => zC0 σ σ' (u_put V (K : Int) (fun j => wr (σ 50 j)) (fun j => wr (σ 51 j)) (σ 49 2).toNat) ∧ σ' 52 = σ 52)) ([.ref (a (1 + 4 + 4 * K)), .ref (a 49)] : List Value).toArray s 0 0 A) σ1 [some (.ref (a (1 + 4 + 4 * K))), some (.ref (a 49)), some (.int (zI i))] 2 [] := by
    intro fu
    induction fu with
    | zero =>
      intro i σ1 hn h0 h1 hU h49 h50 h51 h52
      omega
    | succ fu ihL =>
      intro i σ1 hn h0 h1 hU h49 h50 h51 h52
      have hc : σ1 (1 + 4 + 4 * K) 3 = V (18 + (2 * (K : Int) + 1)) + i := by
        rw [(hU.1.2.2 K hK).1, u_put_nd, show ((i.toNat : Nat) : Int) = i by omega]
      refine r_iload2 X dX0_take_2 ?_
      refine r_aload1 X dX0_take_3 ?_
      refine r_get X 2 dX0_take_4 z_c49 in_X3 tw_152 (by decide) rfl rfl (by decide) ?_
      refine r_eqi (y := σ 49 2) (by rw [h49]) ?_
      refine r_icmp_ge (tgt := 75) X dX0_take_7 ⟨⟨by omega, by omega⟩, by omega, by omega⟩ (fun h7 => ?_) (fun h7 => ?_)
      · exact r_vretp X M dX0_take_75 ⟨by rw [show (σ 49 2).toNat = i.toNat by omega]; exact hU, h52⟩
      · refine r_aload0 X dX0_take_10 ?_
        refine r_get X 3 dX0_take_11 (z_cPic hq) in_X0 tw_78 (by have := z_pic.lt hq; omega) rfl rfl (by decide) ?_
        refine r_eqi hc ?_
        refine r_bipush X dX0_take_14 (by decide +kernel) ?_
        refine r_icmp_ge (tgt := 75) X dX0_take_16 ⟨⟨by omega, by omega⟩, by omega, by omega⟩ (fun h16 => ?_) (fun h16 => ?_)
        · exact r_vretp X M dX0_take_75 ⟨by rw [show (σ 49 2).toNat = i.toNat by omega]; exact hU, h52⟩
        · refine r_aload0 X dX0_take_19 ?_
          refine r_get X 0 dX0_take_20 (z_cPic hq) in_X0 tw_71 (by have := z_pic.lt hq; omega) rfl rfl (by decide) ?_
          refine r_aload0 X dX0_take_23 ?_
          refine r_get X 3 dX0_take_24 (z_cPic hq) in_X0 tw_78 (by have := z_pic.lt hq; omega) rfl rfl (by decide) ?_
          refine r_eqi hc ?_
          refine r_aload1 X dX0_take_27 ?_
          refine r_get X 0 dX0_take_28 z_c49 in_X3 tw_148 (by decide) rfl rfl (by decide) ?_
          refine r_iload2 X dX0_take_31 ?_
          refine r_iald X dX0_take_32 z_c50 (by decide) ⟨by omega, by omega⟩ ?_
          refine r_wr ?_
          refine r_eqi (y := wr (σ 50 i)) (by rw [h50]) ?_
          refine r_iast X dX0_take_33 (z_cPic1 hq) (by have := z_pic.lt hq; omega) ⟨by omega, by omega⟩ ?_
          refine r_aload0 X dX0_take_34 ?_
          refine r_get X 1 dX0_take_35 (z_cPic hq) in_X0 tw_73 (by have := z_pic.lt hq; omega) rfl rfl (by decide) ?_
          refine r_aload0 X dX0_take_38 ?_
          refine r_get X 3 dX0_take_39 (z_cPic hq) in_X0 tw_78 (by have := z_pic.lt hq; omega) rfl rfl (by decide) ?_
          refine r_eqi (y := V (18 + (2 * (K : Int) + 1)) + i) (by (repeat rw [z_up_c (by omega)]); exact hc) ?_
          refine r_aload1 X dX0_take_42 ?_
          refine r_get X 1 dX0_take_43 z_c49 in_X3 tw_150 (by decide) rfl rfl (by decide) ?_
          refine r_iload2 X dX0_take_46 ?_
          refine r_iald X dX0_take_47 z_c51 (by decide) ⟨by omega, by omega⟩ ?_
          refine r_wr ?_
          refine r_eqi (y := wr (σ 51 i)) (by rw [z_up_c (by omega), h51]) ?_
          refine r_iast X dX0_take_48 (z_cPic2 hq) (by have := z_pic.lt hq; omega) ⟨by omega, by omega⟩ ?_
          refine r_aload0 X dX0_take_49 ?_
          refine r_get X 2 dX0_take_50 (z_cPic hq) in_X0 tw_75 (by have := z_pic.lt hq; omega) rfl rfl (by decide) ?_
          refine r_aload0 X dX0_take_53 ?_
          refine r_get X 3 dX0_take_54 (z_cPic hq) in_X0 tw_78 (by have := z_pic.lt hq; omega) rfl rfl (by decide) ?_
          refine r_eqi (y := V (18 + (2 * (K : Int) + 1)) + i) (by (repeat rw [z_up_c (by omega)]); exact hc) ?_
          refine r_iconst X dX0_take_57 ?_
          refine r_zast X dX0_take_58 (z_cPic3 hq) (by have := z_pic.lt hq; omega) ⟨by omega, by omega⟩ (by omega) ?_
          refine r_aload0 X dX0_take_59 ?_
          refine r_dup X dX0_take_60 rfl ?_
          refine r_get X 3 dX0_take_61 (z_cPic hq) in_X0 tw_78 (by have := z_pic.lt hq; omega) rfl rfl (by decide) ?_
          refine r_eqi (y := V (18 + (2 * (K : Int) + 1)) + i) (by (repeat rw [z_up_c (by omega)]); exact hc) ?_
          refine r_iconst X dX0_take_64 ?_
          refine r_iadd X dX0_take_65 ?_
          refine r_put (ty := .int) X 3 3 dX0_take_66 (z_cPic hq) in_X0 tw_78 tyX0 tyX0_ok nmX0 (by have := z_pic.lt hq; omega) rfl (by decide) rfl (by decide +kernel) rfl rfl (fun _ _ => rfl) (Nat.le_of_ble_eq_true rfl) ?_
          refine r_iinc2 X dX0_take_69 ?_
          refine r_goto (tgt := 2) X dX0_take_72 (by decide) ?_
          exact ihL (i + 1) _ (by omega) (by omega) (by omega) (((((hU.x (wr (σ 50 i)) hK (by omega) (by omega)).y (wr (σ 51 i)) hK (by omega) (by omega)).s 0 hK (by omega) (by omega)).pd (V (18 + (2 * (K : Int) + 1)) + i + 1) hK).eq (by rw [show (i + 1).toNat = i.toNat + 1 by omega, u_put_s]; unfold u_add; rw [u_put_nd, show ((i.toNat : Nat) : Int) = i by omega])) (by (repeat rw [z_up_c (by omega)]); exact h49) (by (repeat rw [z_up_c (by omega)]); exact h50) (by (repeat rw [z_up_c (by omega)]); exact h51) (by (repeat rw [z_up_c (by omega)]); exact h52)
  exact L 8 0 σ (by omega) (by omega) (by omega) (zC0.refl hS) rfl rfl rfl rfl

set_option maxRecDepth 100000 in
set_option maxHeartbeats 4000000 in
theorem c_X5_draw (l : Launch) {D : va_G} {κ : Nat → ClassId} {a : Nat → Nat} {A : Nat → Prop} (hA : z_aD a A) (σ : zSt) (K : Nat) (hK : K < 5) (V : zV) (hV : v_ok V) (hS : zShow σ 1 V) (hk : 0 ≤ σ 52 5 ∧ σ 52 5 ≤ 5) (hn : 1 ≤ σ 49 2 ∧ V (18 + (2 * (K : Int) + 1)) + σ 49 2 ≤ 7) : z_Tp l D κ a A yX5_draw cX5_draw 3 (some .int) 3 [.ref (a 0), .int (zI (K : Int))] σ (fun z σ' => z = s_put V (K : Int) (σ 49 2) (fun j => wr (σ 50 j)) (fun j => wr (σ 51 j)) ∧ zCup σ σ' V (z_if z V (u_put V (K : Int) (fun j => wr (σ 50 j)) (fun j => wr (σ 51 j)) (σ 49 2).toNat)) (K : Int)) := by
  refine z_Tp_of (cc := cX5_draw) (maxL := 3) (ret := (some .int)) (own := RX5) (lv0 := [some (.ref (a 0)), some (.int (zI (K : Int))), none]) hA (by decide) rfl (Nat.le_of_ble_eq_true rfl) rfl ?_
  intro p e s mm below meth c X M
  obtain ⟨⟨hv0, hv1, hv2, hv3, hv4, hv5⟩, hvm, hvb, hvk, hvc, hvd⟩ := id hV
  obtain ⟨⟨f0, f1, f2, f3, f4, f5⟩, hm, hp⟩ := id hS
  have q1 := hvk (K : Int) (by omega) (by omega)
  rw [show 19 + 2 * (K : Int) = 18 + (2 * (K : Int) + 1) by omega] at q1
  have hq := z_pic.mk (b := 1) (k := K) (Or.inl rfl) hK
  have hpk := hp K hK
  have hrr : ∀ d : Int, 0 ≤ d → d < 7 → (0 ≤ σ ((1 + 4 + 4 * K) + 1) d ∧ σ ((1 + 4 + 4 * K) + 1) d ≤ 40) ∧ 0 ≤ σ ((1 + 4 + 4 * K) + 2) d ∧ σ ((1 + 4 + 4 * K) + 2) d ≤ 40 := fun d d0 d1 => by
    have qd := hpk.2.2 d d0 d1
    have q3 := hvd (7 * (K : Int) + d) (by omega) (by omega)
    rw [show 29 + 3 * (7 * (K : Int) + d) = 28 + (3 * (7 * (K : Int) + d) + 1) by omega] at q3
    omega
  have hpok : p_ok (σ ((1 + 4 + 4 * K) + 1)) (σ ((1 + 4 + 4 * K) + 2)) (fun j => wr (σ 50 j)) (fun j => wr (σ 51 j)) (σ (1 + 4 + 4 * K) 3) (σ 49 2) ↔ p_at V (K : Int) (fun j => wr (σ 50 j)) (fun j => wr (σ 51 j)) (σ 49 2) := p_ok_c hpk.1 (fun d d0 d1 => ⟨(hpk.2.2 d d0 (by omega)).1, (hpk.2.2 d d0 (by omega)).2.1⟩) (fun _ _ _ => ⟨rfl, rfl⟩)
  refine r_aload0 X dX5_draw_0 ?_
  refine r_get X 0 dX5_draw_1 z_c0 in_X5 tw_236 (by decide) rfl rfl (by decide) ?_
  refine r_get X 3 dX5_draw_4 (z_cShow (Or.inl rfl)) in_X4 tw_108 (by omega) rfl rfl (by decide) ?_
  refine r_iload1 X dX5_draw_7 ?_
  refine r_aald (k := K) X dX5_draw_8 (Or.inl rfl) hK ?_
  refine r_astore2 X dX5_draw_9 ?_
  refine r_aload2 X dX5_draw_10 ?_
  refine r_aload0 X dX5_draw_11 ?_
  refine r_get X 3 dX5_draw_12 z_c0 in_X5 tw_239 (by decide) rfl rfl (by decide) ?_
  refine r_callVp (n := 1) X (c_X0_canTake l X.2.2.1 _ _ hq ⟨by omega, by omega⟩ ⟨by omega, by omega⟩ hrr) dX5_draw_15 tw_317 tw_318 tw_319 tw_42 tw_320 (z_cPic (z_pic.mk (Or.inl rfl) hK)) (by have := z_pic.lt (z_pic.mk (Or.inl rfl) hK); omega) rfl rfl (Nat.le_of_ble_eq_true rfl) ⟨by decide, by decide⟩ (by decide +kernel) rfl (fun cz σ1 hcz => ?_)
  have hs1 := hcz.1
  subst hs1
  have hpa := hcz.2.2.trans hpok
  refine r_if_ne (tgt := 24) X dX5_draw_18 ⟨by omega, by omega⟩ (fun h18 => ?_) (fun h18 => ?_)
  · refine r_aload2 X dX5_draw_24 ?_
    refine r_aload0 X dX5_draw_25 ?_
    refine r_get X 3 dX5_draw_26 z_c0 in_X5 tw_239 (by decide) rfl rfl (by decide) ?_
    refine r_callVq (n := 1) X (c_X0_take l X.2.2.1 _ K hK V hV hS ⟨by omega, by omega⟩) dX5_draw_29 tw_332 tw_333 tw_334 tw_42 tw_335 (z_cPic (z_pic.mk (Or.inl rfl) hK)) (by have := z_pic.lt (z_pic.mk (Or.inl rfl) hK); omega) rfl rfl (Nat.le_of_ble_eq_true rfl) ⟨by decide, by decide⟩ (by decide +kernel) rfl (fun σ2 htk => ?_)
    refine r_aload0 X dX5_draw_32 ?_
    refine r_get X 4 dX5_draw_33 z_c0 in_X5 tw_240 (by decide) rfl rfl (by decide) ?_
    refine r_iload1 X dX5_draw_36 ?_
    refine r_callVv (n := 1) X (c_X1_forgetFrom l X.2.2.1 _ 52 (Or.inl rfl) _ ⟨by omega, by omega⟩ (by rw [htk.2]; exact ⟨by omega, by omega⟩)) dX5_draw_37 tw_262 tw_263 tw_264 tw_45 tw_265 (z_cPlan (Or.inl rfl)) (by omega) rfl rfl (Nat.le_of_ble_eq_true rfl) ⟨by decide, by decide⟩ (by decide +kernel) rfl ?_
    refine r_aload2 X dX5_draw_40 ?_
    refine r_get X 3 dX5_draw_41 (z_cPic (z_pic.mk (Or.inl rfl) hK)) in_X0 tw_80 (by have := z_pic.lt (z_pic.mk (Or.inl rfl) hK); omega) rfl rfl (by decide) ?_
    refine r_eqi (y := V (18 + (2 * (K : Int) + 1)) + σ1 49 2) (by rw [z_up_c (by omega), (htk.1.1.2.2 K hK).1, u_put_nd]; omega) ?_
    exact r_iretp X M dX5_draw_44 ⟨by rw [s_put_p (by omega) (hpa.mp (by omega))], by rw [zIf_p (by omega)]; exact ⟨htk.1.us 5 _ (by unfold zFr; omega) (by omega), zKn_min htk.2 hk.1 (by omega)⟩⟩
  · refine r_bipush X dX5_draw_21 (by decide +kernel) ?_
    exact r_iretp X M dX5_draw_23 ⟨by rw [s_put_n (by omega) (fun h => by have := hpa.mpr h; omega)], by rw [zIf_n (by omega)]; exact zCup.refl hS hk.1 _⟩

/-- drawing behind the shape is made -/
theorem draw_fin {σ σ1 σ2 : zSt} {V : zV} {K : Nat} {n z : Int} {sx sy : Int → Int} (hsh : zSh σ σ1 n sx sy) (hn : 1 ≤ n) (hr : V (18 + (2 * (K : Int) + 1)) + n ≤ 7) (h0 : z_in (sx 0) ∧ z_in (sy 0)) (hs : ∀ j : Int, 0 ≤ j → j < n → (-1000 ≤ sx j - sx 0 ∧ sx j - sx 0 ≤ 1000) ∧ -1000 ≤ sy j - sy 0 ∧ sy j - sy 0 ≤ 1000)
    (hz : z = s_put V (K : Int) (σ1 49 2) (fun j => wr (σ1 50 j)) (fun j => wr (σ1 51 j)) ∧ zCup σ1 σ2 V (z_if z V (u_put V (K : Int) (fun j => wr (σ1 50 j)) (fun j => wr (σ1 51 j)) (σ1 49 2).toNat)) (K : Int)) (hV : 0 ≤ V (18 + (2 * (K : Int) + 1))) : z = s_put V (K : Int) n sx sy ∧ zCup σ σ2 V (z_if z V (u_put V (K : Int) sx sy n.toNat)) (K : Int) := by
  obtain ⟨h1, h2, h3⟩ := hsh
  obtain ⟨e1, e2⟩ := hz
  rw [h2] at e1 e2
  have hp := put_wr (V := V) (q := (K : Int)) hn h0 hs
  have hc : p_at V (K : Int) (fun j => wr (σ1 50 j)) (fun j => wr (σ1 51 j)) n ↔ p_at V (K : Int) (fun j => wr (sx j)) (fun j => wr (sy j)) n := p_ok_c rfl (fun _ _ _ => ⟨rfl, rfl⟩) (fun j a b => by
    have := h3 j a b
    simp only [this.1, this.2]
    exact ⟨trivial, trivial⟩)
  have hfr : zCup σ1 σ2 V (z_if z V (u_put V (K : Int) sx sy n.toNat)) (K : Int) → zCup σ σ2 V (z_if z V (u_put V (K : Int) sx sy n.toNat)) (K : Int) := fun h => by
    obtain ⟨⟨a1, a2⟩, a3, a4⟩ := h
    rw [h1 52 (by decide) (by decide) (by decide)] at a3
    exact ⟨⟨a1, fun c hc => by rw [a2 c hc]; unfold zFr at hc; exact h1 c (by omega) (by omega) (by omega)⟩, a3, a4⟩
  by_cases h : p_at V (K : Int) sx sy n
  · have hw := hp.2 h
    rw [s_put_p hr (hc.mpr (hp.1.mpr h))] at e1
    refine ⟨by rw [s_put_p hr h]; exact e1, hfr ?_⟩
    rw [zIf_p (by omega)] at e2 ⊢
    rw [u_put_c n.toNat (tx := sx) (ty := sy) (fun j a b => by
      have q1 := h3 j a (by omega)
      have q2 := hw j a (by omega)
      simp only [q1.1, q1.2, q2.1, q2.2]
      exact ⟨trivial, trivial⟩)] at e2
    exact e2
  · rw [s_put_n hr (fun q => h (hp.1.mp (hc.mp q)))] at e1
    refine ⟨by rw [s_put_n hr h]; exact e1, hfr ?_⟩
    rw [zIf_n (by omega)] at e2 ⊢
    exact e2

set_option maxRecDepth 100000 in
set_option maxHeartbeats 4000000 in
theorem c_X5_line (l : Launch) {D : va_G} {κ : Nat → ClassId} {a : Nat → Nat} {A : Nat → Prop} (hA : z_aD a A) (σ : zSt) (q n x y dx dy : Int) (hq : z_in q) (hn : z_in n) (hx : z_in x) (hy : z_in y) (hdx : z_in dx) (hdy : z_in dy) (V : zV) (hV : v_ok V) (hS : zShow σ 1 V) (hk : 0 ≤ σ 52 5 ∧ σ 52 5 ≤ 5) : z_Tp l D κ a A yX5_line cX5_line 7 (some .int) 4 [.ref (a 0), .int (zI q), .int (zI n), .int (zI x), .int (zI y), .int (zI dx), .int (zI dy)] σ (fun z σ' => z = s_line V q n x y dx dy ∧ zCup σ σ' V (z_if z V (u_line V q n x y dx dy)) q) := by
  refine z_Tp_of (cc := cX5_line) (maxL := 7) (ret := (some .int)) (own := RX5) (lv0 := [some (.ref (a 0)), some (.int (zI q)), some (.int (zI n)), some (.int (zI x)), some (.int (zI y)), some (.int (zI dx)), some (.int (zI dy))]) hA (by decide) rfl (Nat.le_of_ble_eq_true rfl) rfl ?_
  intro p e s mm below meth c X M
  obtain ⟨⟨hv0, hv1, hv2, hv3, hv4, hv5⟩, hvm, hvb, hvk, hvc, hvd⟩ := id hV
  obtain ⟨⟨f0, f1, f2, f3, f4, f5⟩, hm, hp⟩ := id hS
  refine r_aload0 X dX5_line_0 ?_
  refine r_get X 0 dX5_line_1 z_c0 in_X5 tw_236 (by decide) rfl rfl (by decide) ?_
  refine r_iload1 X dX5_line_4 ?_
  refine r_callVi (n := 1) X (c_X4_hasPicture l X.2.2.1 _ 1 (Or.inl rfl) _ ⟨by omega, by omega⟩ ⟨by omega, by omega⟩) dX5_line_5 tw_293 tw_294 tw_295 tw_41 tw_296 (z_cShow (Or.inl rfl)) (by omega) rfl rfl (Nat.le_of_ble_eq_true rfl) ⟨by decide, by decide⟩ (by decide +kernel) rfl ?_
  refine r_if_eqB (tgt := 45) X dX5_line_8 (fun h8 => ?_) (fun h8 => ?_)
  · refine r_iconst X dX5_line_45 ?_
    exact r_iretp X M dX5_line_46 ⟨by unfold s_line; rw [if_neg (by omega)], by rw [zIf_n (by omega)]; exact zCup.refl hS hk.1 _⟩
  · refine r_iload2 X dX5_line_11 ?_
    refine r_iconst X dX5_line_12 ?_
    refine r_bipush X dX5_line_13 (by decide +kernel) ?_
    refine r_callSi (n := 3) X (c_X5_isOutside l X.2.2.1 _ _ _ _ ⟨by omega, by omega⟩ ⟨by omega, by omega⟩ ⟨by omega, by omega⟩) dX5_line_15 tw_259 tw_260 tw_40 tw_261 rfl (Nat.le_of_ble_eq_true rfl) ⟨by decide, by decide⟩ (by decide +kernel) rfl ?_
    refine r_if_neB (tgt := 45) X dX5_line_18 (fun h18 => ?_) (fun h18 => ?_)
    · refine r_iconst X dX5_line_45 ?_
      exact r_iretp X M dX5_line_46 ⟨by unfold s_line; rw [if_neg (by omega)], by rw [zIf_n (by omega)]; exact zCup.refl hS hk.1 _⟩
    · refine r_iload5 X dX5_line_21 ?_
      refine r_bipush X dX5_line_23 (by decide +kernel) ?_
      refine r_bipush X dX5_line_25 (by decide +kernel) ?_
      refine r_callSi (n := 3) X (c_X5_isOutside l X.2.2.1 _ _ _ _ ⟨by omega, by omega⟩ ⟨by omega, by omega⟩ ⟨by omega, by omega⟩) dX5_line_27 tw_259 tw_260 tw_40 tw_261 rfl (Nat.le_of_ble_eq_true rfl) ⟨by decide, by decide⟩ (by decide +kernel) rfl ?_
      refine r_if_neB (tgt := 45) X dX5_line_30 (fun h30 => ?_) (fun h30 => ?_)
      · refine r_iconst X dX5_line_45 ?_
        exact r_iretp X M dX5_line_46 ⟨by unfold s_line; rw [if_neg (by omega)], by rw [zIf_n (by omega)]; exact zCup.refl hS hk.1 _⟩
      · refine r_iload6 X dX5_line_33 ?_
        refine r_bipush X dX5_line_35 (by decide +kernel) ?_
        refine r_bipush X dX5_line_37 (by decide +kernel) ?_
        refine r_callSi (n := 3) X (c_X5_isOutside l X.2.2.1 _ _ _ _ ⟨by omega, by omega⟩ ⟨by omega, by omega⟩ ⟨by omega, by omega⟩) dX5_line_39 tw_259 tw_260 tw_40 tw_261 rfl (Nat.le_of_ble_eq_true rfl) ⟨by decide, by decide⟩ (by decide +kernel) rfl ?_
        refine r_if_eqB (tgt := 47) X dX5_line_42 (fun h42 => ?_) (fun h42 => ?_)
        · obtain ⟨K, rfl⟩ : ∃ K : Nat, q = (K : Int) := ⟨q.toNat, by omega⟩
          have hK : K < 5 := by omega
          have hpk := hp K hK
          have q1 := hvk K (by omega) (by omega)
          rw [show 19 + 2 * (K : Int) = 18 + (2 * (K : Int) + 1) by omega] at q1
          
          refine r_aload0 X dX5_line_47 ?_
          refine r_get X 0 dX5_line_48 z_c0 in_X5 tw_236 (by decide) rfl rfl (by decide) ?_
          refine r_get X 3 dX5_line_51 (z_cShow (Or.inl rfl)) in_X4 tw_108 (by omega) rfl rfl (by decide) ?_
          refine r_iload1 X dX5_line_54 ?_
          refine r_aald (k := K) X dX5_line_55 (Or.inl rfl) hK ?_
          refine r_iload2 X dX5_line_56 ?_
          refine r_callVi (n := 1) X (c_X0_hasRoomFor l X.2.2.1 _ _ (z_pic.mk (Or.inl rfl) hK) _ ⟨by omega, by omega⟩ ⟨by omega, by omega⟩) dX5_line_57 tw_301 tw_302 tw_303 tw_42 tw_304 (z_cPic (z_pic.mk (Or.inl rfl) hK)) (by have := z_pic.lt (z_pic.mk (Or.inl rfl) hK); omega) rfl rfl (Nat.le_of_ble_eq_true rfl) ⟨by decide, by decide⟩ (by decide +kernel) rfl ?_
          refine r_if_neB (tgt := 66) X dX5_line_60 (fun h60 => ?_) (fun h60 => ?_)
          · refine r_aload0 X dX5_line_66 ?_
            refine r_get X 3 dX5_line_67 z_c0 in_X5 tw_239 (by decide) rfl rfl (by decide) ?_
            refine r_iload2 X dX5_line_70 ?_
            refine r_iload3 X dX5_line_71 ?_
            refine r_iload4 X dX5_line_72 ?_
            refine r_iload5 X dX5_line_74 ?_
            refine r_iload6 X dX5_line_76 ?_
            refine r_callVq (n := 5) X (c_X3_becomeLine l X.2.2.1 _ _ _ _ _ _ ⟨by omega, by omega⟩) dX5_line_78 tw_305 tw_306 tw_307 tw_43 tw_308 z_c49 (by decide) rfl rfl (Nat.le_of_ble_eq_true rfl) ⟨by decide, by decide⟩ (by decide +kernel) rfl (fun σ1 hsh => ?_)
            refine r_aload0 X dX5_line_81 ?_
            refine r_iload1 X dX5_line_82 ?_
            refine r_callVp (n := 1) X (c_X5_draw l X.2.2.1 _ K hK V hV (hS.of (fun c c0 c1 => hsh.1 c (by omega) (by omega) (by omega))) (by rw [hsh.1 52 (by decide) (by decide) (by decide)]; exact hk) (by rw [hsh.2.1]; exact ⟨by omega, by omega⟩)) dX5_line_83 tw_313 tw_315 tw_1 tw_40 tw_316 z_c0 (by decide) rfl rfl (Nat.le_of_ble_eq_true rfl) ⟨by decide, by decide⟩ (by decide +kernel) rfl (fun z2 σ2 h2 => ?_)
            have h00 : z_in ((sx_line x dx) 0) ∧ z_in ((sx_line y dy) 0) := (by unfold sx_line; rw [Int.zero_mul, Int.add_zero, Int.zero_mul, Int.add_zero]; exact ⟨hx, hy⟩)
            have hss : ∀ j : Int, 0 ≤ j → j < n → (-1000 ≤ (sx_line x dx) j - (sx_line x dx) 0 ∧ (sx_line x dx) j - (sx_line x dx) 0 ≤ 1000) ∧ -1000 ≤ (sx_line y dy) j - (sx_line y dy) 0 ∧ (sx_line y dy) j - (sx_line y dy) 0 ≤ 1000 := fun j j0 j1 => by
              have m1 := z_mul_b (a := j) (b := dx) (A := 7) (B := 10) (by omega) (by omega) (by omega) (by omega)
              have m2 := z_mul_b (a := j) (b := dy) (A := 7) (B := 10) (by omega) (by omega) (by omega) (by omega)
              unfold sx_line
              omega
            exact r_iretp X M dX5_line_86 (by unfold s_line u_line; rw [if_pos (by omega)]; exact draw_fin hsh (by omega) (by omega) h00 hss h2 (by omega))
          · refine r_bipush X dX5_line_63 (by decide +kernel) ?_
            exact r_iretp X M dX5_line_65 ⟨by unfold s_line; rw [if_pos (by omega), s_put_f (by omega)], by rw [zIf_n (by omega)]; exact zCup.refl hS hk.1 _⟩
        · refine r_iconst X dX5_line_45 ?_
          exact r_iretp X M dX5_line_46 ⟨by unfold s_line; rw [if_neg (by omega)], by rw [zIf_n (by omega)]; exact zCup.refl hS hk.1 _⟩

set_option maxRecDepth 100000 in
set_option maxHeartbeats 4000000 in
theorem c_X5_block (l : Launch) {D : va_G} {κ : Nat → ClassId} {a : Nat → Nat} {A : Nat → Prop} (hA : z_aD a A) (σ : zSt) (q x y w h g : Int) (hq : z_in q) (hx : z_in x) (hy : z_in y) (hw : z_in w) (hh : z_in h) (hg : z_in g) (V : zV) (hV : v_ok V) (hS : zShow σ 1 V) (hk : 0 ≤ σ 52 5 ∧ σ 52 5 ≤ 5) : z_Tp l D κ a A yX5_block cX5_block 7 (some .int) 4 [.ref (a 0), .int (zI q), .int (zI x), .int (zI y), .int (zI w), .int (zI h), .int (zI g)] σ (fun z σ' => z = s_block V q x y w h g ∧ zCup σ σ' V (z_if z V (u_block V q x y w h g)) q) := by
  refine z_Tp_of (cc := cX5_block) (maxL := 7) (ret := (some .int)) (own := RX5) (lv0 := [some (.ref (a 0)), some (.int (zI q)), some (.int (zI x)), some (.int (zI y)), some (.int (zI w)), some (.int (zI h)), some (.int (zI g))]) hA (by decide) rfl (Nat.le_of_ble_eq_true rfl) rfl ?_
  intro p e s mm below meth c X M
  obtain ⟨⟨hv0, hv1, hv2, hv3, hv4, hv5⟩, hvm, hvb, hvk, hvc, hvd⟩ := id hV
  obtain ⟨⟨f0, f1, f2, f3, f4, f5⟩, hm, hp⟩ := id hS
  refine r_aload0 X dX5_block_0 ?_
  refine r_get X 0 dX5_block_1 z_c0 in_X5 tw_236 (by decide) rfl rfl (by decide) ?_
  refine r_iload1 X dX5_block_4 ?_
  refine r_callVi (n := 1) X (c_X4_hasPicture l X.2.2.1 _ 1 (Or.inl rfl) _ ⟨by omega, by omega⟩ ⟨by omega, by omega⟩) dX5_block_5 tw_293 tw_294 tw_295 tw_41 tw_296 (z_cShow (Or.inl rfl)) (by omega) rfl rfl (Nat.le_of_ble_eq_true rfl) ⟨by decide, by decide⟩ (by decide +kernel) rfl ?_
  refine r_if_eqB (tgt := 41) X dX5_block_8 (fun h8 => ?_) (fun h8 => ?_)
  · refine r_iconst X dX5_block_41 ?_
    exact r_iretp X M dX5_block_42 ⟨by unfold s_block; rw [if_neg (by omega)], by rw [zIf_n (by omega)]; exact zCup.refl hS hk.1 _⟩
  · refine r_iload4 X dX5_block_11 ?_
    refine r_iconst X dX5_block_13 ?_
    refine r_iconst X dX5_block_14 ?_
    refine r_callSi (n := 3) X (c_X5_isOutside l X.2.2.1 _ _ _ _ ⟨by omega, by omega⟩ ⟨by omega, by omega⟩ ⟨by omega, by omega⟩) dX5_block_15 tw_259 tw_260 tw_40 tw_261 rfl (Nat.le_of_ble_eq_true rfl) ⟨by decide, by decide⟩ (by decide +kernel) rfl ?_
    refine r_if_neB (tgt := 41) X dX5_block_18 (fun h18 => ?_) (fun h18 => ?_)
    · refine r_iconst X dX5_block_41 ?_
      exact r_iretp X M dX5_block_42 ⟨by unfold s_block; rw [if_neg (by omega)], by rw [zIf_n (by omega)]; exact zCup.refl hS hk.1 _⟩
    · refine r_iload5 X dX5_block_21 ?_
      refine r_iconst X dX5_block_23 ?_
      refine r_iconst X dX5_block_24 ?_
      refine r_callSi (n := 3) X (c_X5_isOutside l X.2.2.1 _ _ _ _ ⟨by omega, by omega⟩ ⟨by omega, by omega⟩ ⟨by omega, by omega⟩) dX5_block_25 tw_259 tw_260 tw_40 tw_261 rfl (Nat.le_of_ble_eq_true rfl) ⟨by decide, by decide⟩ (by decide +kernel) rfl ?_
      refine r_if_neB (tgt := 41) X dX5_block_28 (fun h28 => ?_) (fun h28 => ?_)
      · refine r_iconst X dX5_block_41 ?_
        exact r_iretp X M dX5_block_42 ⟨by unfold s_block; rw [if_neg (by omega)], by rw [zIf_n (by omega)]; exact zCup.refl hS hk.1 _⟩
      · refine r_iload6 X dX5_block_31 ?_
        refine r_iconst X dX5_block_33 ?_
        refine r_iconst X dX5_block_34 ?_
        refine r_callSi (n := 3) X (c_X5_isOutside l X.2.2.1 _ _ _ _ ⟨by omega, by omega⟩ ⟨by omega, by omega⟩ ⟨by omega, by omega⟩) dX5_block_35 tw_259 tw_260 tw_40 tw_261 rfl (Nat.le_of_ble_eq_true rfl) ⟨by decide, by decide⟩ (by decide +kernel) rfl ?_
        refine r_if_eqB (tgt := 43) X dX5_block_38 (fun h38 => ?_) (fun h38 => ?_)
        · obtain ⟨K, rfl⟩ : ∃ K : Nat, q = (K : Int) := ⟨q.toNat, by omega⟩
          have hK : K < 5 := by omega
          have hpk := hp K hK
          have q1 := hvk K (by omega) (by omega)
          rw [show 19 + 2 * (K : Int) = 18 + (2 * (K : Int) + 1) by omega] at q1
          have hwh := z_mul_b (a := w) (b := h) (A := 4) (B := 4) (by omega) (by omega) (by omega) (by omega)
          have hwp : 1 ≤ w * h := by
            have := Int.mul_pos (show 0 < w by omega) (show 0 < h by omega)
            omega
          refine r_aload0 X dX5_block_43 ?_
          refine r_get X 0 dX5_block_44 z_c0 in_X5 tw_236 (by decide) rfl rfl (by decide) ?_
          refine r_get X 3 dX5_block_47 (z_cShow (Or.inl rfl)) in_X4 tw_108 (by omega) rfl rfl (by decide) ?_
          refine r_iload1 X dX5_block_50 ?_
          refine r_aald (k := K) X dX5_block_51 (Or.inl rfl) hK ?_
          refine r_iload4 X dX5_block_52 ?_
          refine r_iload5 X dX5_block_54 ?_
          refine r_imul X dX5_block_56 ?_
          refine r_callVi (n := 1) X (c_X0_hasRoomFor l X.2.2.1 _ _ (z_pic.mk (Or.inl rfl) hK) _ ⟨by omega, by omega⟩ ⟨by omega, by omega⟩) dX5_block_57 tw_301 tw_302 tw_303 tw_42 tw_304 (z_cPic (z_pic.mk (Or.inl rfl) hK)) (by have := z_pic.lt (z_pic.mk (Or.inl rfl) hK); omega) rfl rfl (Nat.le_of_ble_eq_true rfl) ⟨by decide, by decide⟩ (by decide +kernel) rfl ?_
          refine r_if_neB (tgt := 66) X dX5_block_60 (fun h60 => ?_) (fun h60 => ?_)
          · refine r_aload0 X dX5_block_66 ?_
            refine r_get X 3 dX5_block_67 z_c0 in_X5 tw_239 (by decide) rfl rfl (by decide) ?_
            refine r_iload2 X dX5_block_70 ?_
            refine r_iload3 X dX5_block_71 ?_
            refine r_iload4 X dX5_block_72 ?_
            refine r_iload5 X dX5_block_74 ?_
            refine r_iload6 X dX5_block_76 ?_
            refine r_callVq (n := 5) X (c_X3_becomeBlock l X.2.2.1 _ _ _ _ _ _ ⟨by omega, by omega⟩ ⟨by omega, by omega⟩ (by omega)) dX5_block_78 tw_340 tw_341 tw_342 tw_43 tw_343 z_c49 (by decide) rfl rfl (Nat.le_of_ble_eq_true rfl) ⟨by decide, by decide⟩ (by decide +kernel) rfl (fun σ1 hsh => ?_)
            refine r_aload0 X dX5_block_81 ?_
            refine r_iload1 X dX5_block_82 ?_
            refine r_callVp (n := 1) X (c_X5_draw l X.2.2.1 _ K hK V hV (hS.of (fun c c0 c1 => hsh.1 c (by omega) (by omega) (by omega))) (by rw [hsh.1 52 (by decide) (by decide) (by decide)]; exact hk) (by rw [hsh.2.1]; exact ⟨by omega, by omega⟩)) dX5_block_83 tw_313 tw_315 tw_1 tw_40 tw_316 z_c0 (by decide) rfl rfl (Nat.le_of_ble_eq_true rfl) ⟨by decide, by decide⟩ (by decide +kernel) rfl (fun z2 σ2 h2 => ?_)
            have h00 : z_in ((sx_block x w g) 0) ∧ z_in ((sy_block y w g) 0) := (by unfold sx_block sy_block; rw [Int.zero_emod, Int.zero_ediv, Int.zero_mul, Int.add_zero, Int.add_zero]; exact ⟨hx, hy⟩)
            have hss : ∀ j : Int, 0 ≤ j → j < w * h → (-1000 ≤ (sx_block x w g) j - (sx_block x w g) 0 ∧ (sx_block x w g) j - (sx_block x w g) 0 ≤ 1000) ∧ -1000 ≤ (sy_block y w g) j - (sy_block y w g) 0 ∧ (sy_block y w g) j - (sy_block y w g) 0 ≤ 1000 := fun j j0 j1 => by
              have d1 : 0 ≤ j % w ∧ j % w < w := ⟨Int.emod_nonneg _ (by omega), Int.emod_lt_of_pos _ (by omega)⟩
              have d2 : 0 ≤ j / w ∧ j / w < h := ⟨Int.ediv_nonneg j0 (by omega), Int.ediv_lt_of_lt_mul (by omega) (by rw [Int.mul_comm]; exact j1)⟩
              have m1 := z_mul_b (a := j % w) (b := g) (A := 4) (B := 5) (by omega) (by omega) (by omega) (by omega)
              have m2 := z_mul_b (a := j / w) (b := g) (A := 4) (B := 5) (by omega) (by omega) (by omega) (by omega)
              unfold sx_block sy_block
              rw [Int.zero_emod, Int.zero_ediv, Int.zero_mul]
              omega
            exact r_iretp X M dX5_block_86 (by unfold s_block u_block; rw [if_pos (by omega)]; exact draw_fin hsh (by omega) (by omega) h00 hss h2 (by omega))
          · refine r_bipush X dX5_block_63 (by decide +kernel) ?_
            exact r_iretp X M dX5_block_65 ⟨by unfold s_block; rw [if_pos (by omega), s_put_f (by omega)], by rw [zIf_n (by omega)]; exact zCup.refl hS hk.1 _⟩
        · refine r_iconst X dX5_block_41 ?_
          exact r_iretp X M dX5_block_42 ⟨by unfold s_block; rw [if_neg (by omega)], by rw [zIf_n (by omega)]; exact zCup.refl hS hk.1 _⟩

set_option maxRecDepth 100000 in
set_option maxHeartbeats 4000000 in
theorem c_X5_corner (l : Launch) {D : va_G} {κ : Nat → ClassId} {a : Nat → Nat} {A : Nat → Prop} (hA : z_aD a A) (σ : zSt) (q x y n g : Int) (hq : z_in q) (hx : z_in x) (hy : z_in y) (hn : z_in n) (hg : z_in g) (V : zV) (hV : v_ok V) (hS : zShow σ 1 V) (hk : 0 ≤ σ 52 5 ∧ σ 52 5 ≤ 5) : z_Tp l D κ a A yX5_corner cX5_corner 6 (some .int) 4 [.ref (a 0), .int (zI q), .int (zI x), .int (zI y), .int (zI n), .int (zI g)] σ (fun z σ' => z = s_corner V q x y n g ∧ zCup σ σ' V (z_if z V (u_corner V q x y n g)) q) := by
  refine z_Tp_of (cc := cX5_corner) (maxL := 6) (ret := (some .int)) (own := RX5) (lv0 := [some (.ref (a 0)), some (.int (zI q)), some (.int (zI x)), some (.int (zI y)), some (.int (zI n)), some (.int (zI g))]) hA (by decide) rfl (Nat.le_of_ble_eq_true rfl) rfl ?_
  intro p e s mm below meth c X M
  obtain ⟨⟨hv0, hv1, hv2, hv3, hv4, hv5⟩, hvm, hvb, hvk, hvc, hvd⟩ := id hV
  obtain ⟨⟨f0, f1, f2, f3, f4, f5⟩, hm, hp⟩ := id hS
  refine r_aload0 X dX5_corner_0 ?_
  refine r_get X 0 dX5_corner_1 z_c0 in_X5 tw_236 (by decide) rfl rfl (by decide) ?_
  refine r_iload1 X dX5_corner_4 ?_
  refine r_callVi (n := 1) X (c_X4_hasPicture l X.2.2.1 _ 1 (Or.inl rfl) _ ⟨by omega, by omega⟩ ⟨by omega, by omega⟩) dX5_corner_5 tw_293 tw_294 tw_295 tw_41 tw_296 (z_cShow (Or.inl rfl)) (by omega) rfl rfl (Nat.le_of_ble_eq_true rfl) ⟨by decide, by decide⟩ (by decide +kernel) rfl ?_
  refine r_if_eqB (tgt := 31) X dX5_corner_8 (fun h8 => ?_) (fun h8 => ?_)
  · refine r_iconst X dX5_corner_31 ?_
    exact r_iretp X M dX5_corner_32 ⟨by unfold s_corner; rw [if_neg (by omega)], by rw [zIf_n (by omega)]; exact zCup.refl hS hk.1 _⟩
  · refine r_iload4 X dX5_corner_11 ?_
    refine r_iconst X dX5_corner_13 ?_
    refine r_iconst X dX5_corner_14 ?_
    refine r_callSi (n := 3) X (c_X5_isOutside l X.2.2.1 _ _ _ _ ⟨by omega, by omega⟩ ⟨by omega, by omega⟩ ⟨by omega, by omega⟩) dX5_corner_15 tw_259 tw_260 tw_40 tw_261 rfl (Nat.le_of_ble_eq_true rfl) ⟨by decide, by decide⟩ (by decide +kernel) rfl ?_
    refine r_if_neB (tgt := 31) X dX5_corner_18 (fun h18 => ?_) (fun h18 => ?_)
    · refine r_iconst X dX5_corner_31 ?_
      exact r_iretp X M dX5_corner_32 ⟨by unfold s_corner; rw [if_neg (by omega)], by rw [zIf_n (by omega)]; exact zCup.refl hS hk.1 _⟩
    · refine r_iload5 X dX5_corner_21 ?_
      refine r_iconst X dX5_corner_23 ?_
      refine r_iconst X dX5_corner_24 ?_
      refine r_callSi (n := 3) X (c_X5_isOutside l X.2.2.1 _ _ _ _ ⟨by omega, by omega⟩ ⟨by omega, by omega⟩ ⟨by omega, by omega⟩) dX5_corner_25 tw_259 tw_260 tw_40 tw_261 rfl (Nat.le_of_ble_eq_true rfl) ⟨by decide, by decide⟩ (by decide +kernel) rfl ?_
      refine r_if_eqB (tgt := 33) X dX5_corner_28 (fun h28 => ?_) (fun h28 => ?_)
      · obtain ⟨K, rfl⟩ : ∃ K : Nat, q = (K : Int) := ⟨q.toNat, by omega⟩
        have hK : K < 5 := by omega
        have hpk := hp K hK
        have q1 := hvk K (by omega) (by omega)
        rw [show 19 + 2 * (K : Int) = 18 + (2 * (K : Int) + 1) by omega] at q1
        
        refine r_aload0 X dX5_corner_33 ?_
        refine r_get X 0 dX5_corner_34 z_c0 in_X5 tw_236 (by decide) rfl rfl (by decide) ?_
        refine r_get X 3 dX5_corner_37 (z_cShow (Or.inl rfl)) in_X4 tw_108 (by omega) rfl rfl (by decide) ?_
        refine r_iload1 X dX5_corner_40 ?_
        refine r_aald (k := K) X dX5_corner_41 (Or.inl rfl) hK ?_
        refine r_iload4 X dX5_corner_42 ?_
        refine r_iload4 X dX5_corner_44 ?_
        refine r_iadd X dX5_corner_46 ?_
        refine r_iconst X dX5_corner_47 ?_
        refine r_isub X dX5_corner_48 ?_
        refine r_callVi (n := 1) X (c_X0_hasRoomFor l X.2.2.1 _ _ (z_pic.mk (Or.inl rfl) hK) _ ⟨by omega, by omega⟩ ⟨by omega, by omega⟩) dX5_corner_49 tw_301 tw_302 tw_303 tw_42 tw_304 (z_cPic (z_pic.mk (Or.inl rfl) hK)) (by have := z_pic.lt (z_pic.mk (Or.inl rfl) hK); omega) rfl rfl (Nat.le_of_ble_eq_true rfl) ⟨by decide, by decide⟩ (by decide +kernel) rfl ?_
        refine r_if_neB (tgt := 58) X dX5_corner_52 (fun h52 => ?_) (fun h52 => ?_)
        · refine r_aload0 X dX5_corner_58 ?_
          refine r_get X 3 dX5_corner_59 z_c0 in_X5 tw_239 (by decide) rfl rfl (by decide) ?_
          refine r_iload2 X dX5_corner_62 ?_
          refine r_iload3 X dX5_corner_63 ?_
          refine r_iload4 X dX5_corner_64 ?_
          refine r_iload5 X dX5_corner_66 ?_
          refine r_callVq (n := 4) X (c_X3_becomeCorner l X.2.2.1 _ _ _ _ _ ⟨by omega, by omega⟩) dX5_corner_68 tw_348 tw_349 tw_350 tw_43 tw_351 z_c49 (by decide) rfl rfl (Nat.le_of_ble_eq_true rfl) ⟨by decide, by decide⟩ (by decide +kernel) rfl (fun σ1 hsh => ?_)
          refine r_aload0 X dX5_corner_71 ?_
          refine r_iload1 X dX5_corner_72 ?_
          refine r_callVp (n := 1) X (c_X5_draw l X.2.2.1 _ K hK V hV (hS.of (fun c c0 c1 => hsh.1 c (by omega) (by omega) (by omega))) (by rw [hsh.1 52 (by decide) (by decide) (by decide)]; exact hk) (by rw [hsh.2.1]; exact ⟨by omega, by omega⟩)) dX5_corner_73 tw_313 tw_315 tw_1 tw_40 tw_316 z_c0 (by decide) rfl rfl (Nat.le_of_ble_eq_true rfl) ⟨by decide, by decide⟩ (by decide +kernel) rfl (fun z2 σ2 h2 => ?_)
          have h00 : z_in ((sx_corner x n g) 0) ∧ z_in ((sy_corner y n g) 0) := (by unfold sx_corner sy_corner; rw [if_pos (by omega), if_pos (by omega), Int.zero_mul, Int.add_zero, Int.add_zero]; exact ⟨hx, hy⟩)
          have hss : ∀ j : Int, 0 ≤ j → j < 2 * n - 1 → (-1000 ≤ (sx_corner x n g) j - (sx_corner x n g) 0 ∧ (sx_corner x n g) j - (sx_corner x n g) 0 ≤ 1000) ∧ -1000 ≤ (sy_corner y n g) j - (sy_corner y n g) 0 ∧ (sy_corner y n g) j - (sy_corner y n g) 0 ≤ 1000 := fun j j0 j1 => by
            have m1 := z_mul_b (a := if j < n then j else n - 1) (b := g) (A := 4) (B := 5) (by split <;> omega) (by omega) (by omega) (by omega)
            have m2 := z_mul_b (a := if j < n then 0 else j - n + 1) (b := g) (A := 4) (B := 5) (by split <;> omega) (by omega) (by omega) (by omega)
            unfold sx_corner sy_corner
            rw [if_pos (show (0 : Int) < n by omega), if_pos (show (0 : Int) < n by omega), Int.zero_mul]
            omega
          exact r_iretp X M dX5_corner_76 (by unfold s_corner u_corner; rw [if_pos (by omega)]; exact draw_fin hsh (by omega) (by omega) h00 hss h2 (by omega))
        · refine r_bipush X dX5_corner_55 (by decide +kernel) ?_
          exact r_iretp X M dX5_corner_57 ⟨by unfold s_corner; rw [if_pos (by omega), s_put_f (by omega)], by rw [zIf_n (by omega)]; exact zCup.refl hS hk.1 _⟩
      · refine r_iconst X dX5_corner_31 ?_
        exact r_iretp X M dX5_corner_32 ⟨by unfold s_corner; rw [if_neg (by omega)], by rw [zIf_n (by omega)]; exact zCup.refl hS hk.1 _⟩

