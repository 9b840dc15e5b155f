set_option maxRecDepth 100000 in
set_option maxHeartbeats 4000000 in
theorem c_X6_in (l : Launch) {D : va_G} {κ : Nat → ClassId} {a : Nat → Nat} {A : Nat → Prop} (hA : z_aD a A) (σ : zSt) (v b t : Int) (hv : z_inL v) (hb : z_inL b) (ht : z_inL t) : z_Ti l D κ a A yX6_in cX6_in 6 (some .boolean) 0 [.long (zL v), .long (zL b), .long (zL t)] σ (zB (b ≤ v ∧ v ≤ t)) (σ) := by
  refine z_Ti_of (cc := cX6_in) (maxL := 6) (ret := (some .boolean)) (own := RX6) (lv0 := [some (.long (zL v)), none, some (.long (zL b)), none, some (.long (zL t)), none]) hA (by decide) rfl (Nat.le_of_ble_eq_true rfl) rfl ?_
  intro p e s mm below meth c X M
  refine r_lload0 X dX6_in_0 ?_
  refine r_lload2 X dX6_in_1 ?_
  refine r_lcmp X dX6_in_2 ⟨by omega, by omega⟩ ⟨by omega, by omega⟩ ?_
  refine r_if_ltC (tgt := 17) X dX6_in_3 (fun h3 => ?_) (fun h3 => ?_)
  · refine r_iconst X dX6_in_17 ?_
    exact r_zret X M dX6_in_18 (by omega) (by unfold zB; split <;> omega) rfl
  · refine r_lload0 X dX6_in_6 ?_
    refine r_lload4 X dX6_in_7 ?_
    refine r_lcmp X dX6_in_9 ⟨by omega, by omega⟩ ⟨by omega, by omega⟩ ?_
    refine r_if_gtC (tgt := 17) X dX6_in_10 (fun h10 => ?_) (fun h10 => ?_)
    · refine r_iconst X dX6_in_17 ?_
      exact r_zret X M dX6_in_18 (by omega) (by unfold zB; split <;> omega) rfl
    · refine r_iconst X dX6_in_13 ?_
      refine r_goto (tgt := 18) X dX6_in_14 (by decide) ?_
      exact r_zret X M dX6_in_18 (by omega) (by unfold zB; split <;> omega) rfl

set_option maxRecDepth 100000 in
set_option maxHeartbeats 4000000 in
theorem c_X6_isMarcher (l : Launch) {D : va_G} {κ : Nat → ClassId} {a : Nat → Nat} {A : Nat → Prop} (hA : z_aD a A) (σ : zSt) (m : Int) (hm : z_in m) (hN : 0 ≤ σ 81 0 ∧ σ 81 0 ≤ 6) : z_Ti l D κ a A yX6_isMarcher cX6_isMarcher 2 (some .boolean) 1 [.ref (a 80), .int (zI m)] σ (zB (0 ≤ m ∧ m < σ 81 0)) (σ) := by
  refine z_Ti_of (cc := cX6_isMarcher) (maxL := 2) (ret := (some .boolean)) (own := RX6) (lv0 := [some (.ref (a 80)), some (.int (zI m))]) hA (by decide) rfl (Nat.le_of_ble_eq_true rfl) rfl ?_
  intro p e s mm below meth c X M
  refine r_iload1 X dX6_isMarcher_0 ?_
  refine r_i2l X dX6_isMarcher_1 ⟨by omega, by omega⟩ ?_
  refine r_lconst X dX6_isMarcher_2 0 (by decide +kernel) ?_
  refine r_aload0 X dX6_isMarcher_3 ?_
  refine r_get X 0 dX6_isMarcher_4 z_c80 in_X6 tw_558 (by decide) rfl rfl (by decide) ?_
  refine r_iconst X dX6_isMarcher_7 ?_
  refine r_iald X dX6_isMarcher_8 z_c81 (by decide) ⟨by omega, by omega⟩ ?_
  refine r_iconst X dX6_isMarcher_9 ?_
  refine r_isub X dX6_isMarcher_10 ?_
  refine r_i2l X dX6_isMarcher_11 ⟨by omega, by omega⟩ ?_
  refine r_callSi (n := 3) X (c_X6_in l X.2.2.1 _ _ _ _ ⟨by omega, by omega⟩ ⟨by omega, by omega⟩ ⟨by omega, by omega⟩) dX6_isMarcher_12 tw_619 tw_620 tw_46 tw_621 rfl (Nat.le_of_ble_eq_true rfl) ⟨by decide, by decide⟩ (by decide +kernel) rfl ?_
  exact r_zret X M dX6_isMarcher_15 (zB_01 _) (zB_c (by omega)) rfl

set_option maxRecDepth 100000 in
set_option maxHeartbeats 4000000 in
theorem c_X6_isPicture (l : Launch) {D : va_G} {κ : Nat → ClassId} {a : Nat → Nat} {A : Nat → Prop} (hA : z_aD a A) (σ : zSt) (m : Int) (hm : z_in m) (hN : 0 ≤ σ 81 1 ∧ σ 81 1 ≤ 5) : z_Ti l D κ a A yX6_isPicture cX6_isPicture 2 (some .boolean) 1 [.ref (a 80), .int (zI m)] σ (zB (0 ≤ m ∧ m < σ 81 1)) (σ) := by
  refine z_Ti_of (cc := cX6_isPicture) (maxL := 2) (ret := (some .boolean)) (own := RX6) (lv0 := [some (.ref (a 80)), some (.int (zI m))]) hA (by decide) rfl (Nat.le_of_ble_eq_true rfl) rfl ?_
  intro p e s mm below meth c X M
  refine r_iload1 X dX6_isPicture_0 ?_
  refine r_i2l X dX6_isPicture_1 ⟨by omega, by omega⟩ ?_
  refine r_lconst X dX6_isPicture_2 0 (by decide +kernel) ?_
  refine r_aload0 X dX6_isPicture_3 ?_
  refine r_get X 0 dX6_isPicture_4 z_c80 in_X6 tw_558 (by decide) rfl rfl (by decide) ?_
  refine r_iconst X dX6_isPicture_7 ?_
  refine r_iald X dX6_isPicture_8 z_c81 (by decide) ⟨by omega, by omega⟩ ?_
  refine r_iconst X dX6_isPicture_9 ?_
  refine r_isub X dX6_isPicture_10 ?_
  refine r_i2l X dX6_isPicture_11 ⟨by omega, by omega⟩ ?_
  refine r_callSi (n := 3) X (c_X6_in l X.2.2.1 _ _ _ _ ⟨by omega, by omega⟩ ⟨by omega, by omega⟩ ⟨by omega, by omega⟩) dX6_isPicture_12 tw_619 tw_620 tw_46 tw_621 rfl (Nat.le_of_ble_eq_true rfl) ⟨by decide, by decide⟩ (by decide +kernel) rfl ?_
  exact r_zret X M dX6_isPicture_15 (zB_01 _) (zB_c (by omega)) rfl

set_option maxRecDepth 100000 in
set_option maxHeartbeats 4000000 in
theorem c_X6_dotMany (l : Launch) {D : va_G} {κ : Nat → ClassId} {a : Nat → Nat} {A : Nat → Prop} (hA : z_aD a A) (σ : zSt) (m : Int) (hm : 0 ≤ m ∧ m < 5) : z_Ti l D κ a A yX6_dotMany cX6_dotMany 2 (some .int) 0 [.ref (a 80), .int (zI m)] σ (σ 83 (2 * m + 1)) (σ) := by
  refine z_Ti_of (cc := cX6_dotMany) (maxL := 2) (ret := (some .int)) (own := RX6) (lv0 := [some (.ref (a 80)), some (.int (zI m))]) hA (by decide) rfl (Nat.le_of_ble_eq_true rfl) rfl ?_
  intro p e s mm below meth c X M
  refine r_aload0 X dX6_dotMany_0 ?_
  refine r_get X 2 dX6_dotMany_1 z_c80 in_X6 tw_560 (by decide) rfl rfl (by decide) ?_
  refine r_iconst X dX6_dotMany_4 ?_
  refine r_iload1 X dX6_dotMany_5 ?_
  refine r_imul X dX6_dotMany_6 ?_
  refine r_iconst X dX6_dotMany_7 ?_
  refine r_iadd X dX6_dotMany_8 ?_
  refine r_iald X dX6_dotMany_9 z_c83 (by decide) ⟨by omega, by omega⟩ ?_
  exact r_iret X M dX6_dotMany_10 rfl rfl

set_option maxRecDepth 100000 in
set_option maxHeartbeats 4000000 in
theorem c_X6_isIll (l : Launch) {D : va_G} {κ : Nat → ClassId} {a : Nat → Nat} {A : Nat → Prop} (hA : z_aD a A) (σ : zSt) (m : Int) (hm : 0 ≤ m ∧ m < 6) (h1 : z_in (σ 82 (2 * m + 1))) : z_Ti l D κ a A yX6_isIll cX6_isIll 2 (some .boolean) 0 [.ref (a 80), .int (zI m)] σ (zB (σ 82 (2 * m + 1) = 1)) (σ) := by
  refine z_Ti_of (cc := cX6_isIll) (maxL := 2) (ret := (some .boolean)) (own := RX6) (lv0 := [some (.ref (a 80)), some (.int (zI m))]) hA (by decide) rfl (Nat.le_of_ble_eq_true rfl) rfl ?_
  intro p e s mm below meth c X M
  refine r_aload0 X dX6_isIll_0 ?_
  refine r_get X 1 dX6_isIll_1 z_c80 in_X6 tw_559 (by decide) rfl rfl (by decide) ?_
  refine r_iconst X dX6_isIll_4 ?_
  refine r_iload1 X dX6_isIll_5 ?_
  refine r_imul X dX6_isIll_6 ?_
  refine r_iconst X dX6_isIll_7 ?_
  refine r_iadd X dX6_isIll_8 ?_
  refine r_iald X dX6_isIll_9 z_c82 (by decide) ⟨by omega, by omega⟩ ?_
  refine r_iconst X dX6_isIll_10 ?_
  refine r_icmp_ne (tgt := 18) X dX6_isIll_11 ⟨⟨by omega, by omega⟩, by omega, by omega⟩ (fun h11 => ?_) (fun h11 => ?_)
  · refine r_iconst X dX6_isIll_18 ?_
    exact r_zret X M dX6_isIll_19 (by omega) (by unfold zB; split <;> omega) rfl
  · refine r_iconst X dX6_isIll_14 ?_
    refine r_goto (tgt := 19) X dX6_isIll_15 (by decide) ?_
    exact r_zret X M dX6_isIll_19 (by omega) (by unfold zB; split <;> omega) rfl

set_option maxRecDepth 100000 in
set_option maxHeartbeats 4000000 in
theorem c_X6_isDot (l : Launch) {D : va_G} {κ : Nat → ClassId} {a : Nat → Nat} {A : Nat → Prop} (hA : z_aD a A) (σ : zSt) (q d : Int) (hq : z_in q) (hd : z_in d) (hN : 0 ≤ σ 81 1 ∧ σ 81 1 ≤ 5) (hM : ∀ k : Int, 0 ≤ k → k < 5 → 0 ≤ σ 83 (2 * k + 1) ∧ σ 83 (2 * k + 1) ≤ 7) : z_Ti l D κ a A yX6_isDot cX6_isDot 3 (some .boolean) 2 [.ref (a 80), .int (zI q), .int (zI d)] σ (zB ((0 ≤ q ∧ q < σ 81 1) ∧ 0 ≤ d ∧ d < σ 83 (2 * q + 1))) (σ) := by
  refine z_Ti_of (cc := cX6_isDot) (maxL := 3) (ret := (some .boolean)) (own := RX6) (lv0 := [some (.ref (a 80)), some (.int (zI q)), some (.int (zI d))]) hA (by decide) rfl (Nat.le_of_ble_eq_true rfl) rfl ?_
  intro p e s mm below meth c X M
  refine r_aload0 X dX6_isDot_0 ?_
  refine r_iload1 X dX6_isDot_1 ?_
  refine r_callVi (n := 1) X (c_X6_isPicture l X.2.2.1 _ _ ⟨by omega, by omega⟩ ⟨by omega, by omega⟩) dX6_isDot_2 tw_643 tw_645 tw_17 tw_46 tw_646 z_c80 (by decide) rfl rfl (Nat.le_of_ble_eq_true rfl) ⟨by decide, by decide⟩ (by decide +kernel) rfl ?_
  refine r_if_eqB (tgt := 29) X dX6_isDot_5 (fun h5 => ?_) (fun h5 => ?_)
  · refine r_iconst X dX6_isDot_29 ?_
    exact r_zret X M dX6_isDot_30 (by omega) (by unfold zB; split <;> omega) rfl
  · refine r_iload2 X dX6_isDot_8 ?_
    refine r_i2l X dX6_isDot_9 ⟨by omega, by omega⟩ ?_
    refine r_lconst X dX6_isDot_10 0 (by decide +kernel) ?_
    refine r_aload0 X dX6_isDot_11 ?_
    refine r_iload1 X dX6_isDot_12 ?_
    refine r_callVi (n := 1) X (c_X6_dotMany l X.2.2.1 _ _ ⟨by omega, by omega⟩) dX6_isDot_13 tw_662 tw_664 tw_20 tw_46 tw_665 z_c80 (by decide) rfl rfl (Nat.le_of_ble_eq_true rfl) ⟨by decide, by decide⟩ (by decide +kernel) rfl ?_
    refine r_iconst X dX6_isDot_16 ?_
    have hMq := hM q (by omega) (by omega)
    refine r_isub X dX6_isDot_17 ?_
    refine r_i2l X dX6_isDot_18 ⟨by omega, by omega⟩ ?_
    refine r_callSi (n := 3) X (c_X6_in l X.2.2.1 _ _ _ _ ⟨by omega, by omega⟩ ⟨by omega, by omega⟩ ⟨by omega, by omega⟩) dX6_isDot_19 tw_619 tw_620 tw_46 tw_621 rfl (Nat.le_of_ble_eq_true rfl) ⟨by decide, by decide⟩ (by decide +kernel) rfl ?_
    refine r_if_eqB (tgt := 29) X dX6_isDot_22 (fun h22 => ?_) (fun h22 => ?_)
    · refine r_iconst X dX6_isDot_29 ?_
      exact r_zret X M dX6_isDot_30 (by omega) (by unfold zB; split <;> omega) rfl
    · refine r_iconst X dX6_isDot_25 ?_
      refine r_goto (tgt := 30) X dX6_isDot_26 (by decide) ?_
      exact r_zret X M dX6_isDot_30 (by omega) (by unfold zB; split <;> omega) rfl

