set_option maxRecDepth 100000 in
set_option maxHeartbeats 4000000 in
theorem c_X5_isOutside (l : Launch) {D : va_G} {κ : Nat → ClassId} {a : Nat → Nat} {A : Nat → Prop} (hA : z_aD a A) (σ : zSt) (v b t : Int) (hv : z_in v) (hb : z_in b) (ht : z_in t) : z_Ti l D κ a A yX5_isOutside cX5_isOutside 3 (some .boolean) 0 [.int (zI v), .int (zI b), .int (zI t)] σ (zB (v < b ∨ t < v)) (σ) := by
  refine z_Ti_of (cc := cX5_isOutside) (maxL := 3) (ret := (some .boolean)) (own := RX5) (lv0 := [some (.int (zI v)), some (.int (zI b)), some (.int (zI t))]) hA (by decide) rfl (Nat.le_of_ble_eq_true rfl) rfl ?_
  intro p e s mm below meth c X M
  refine r_iload0 X dX5_isOutside_0 ?_
  refine r_iload1 X dX5_isOutside_1 ?_
  refine r_icmp_lt (tgt := 10) X dX5_isOutside_2 ⟨⟨by omega, by omega⟩, by omega, by omega⟩ (fun h2 => ?_) (fun h2 => ?_)
  · refine r_iconst X dX5_isOutside_10 ?_
    refine r_goto (tgt := 15) X dX5_isOutside_11 (by decide) ?_
    exact r_zret X M dX5_isOutside_15 (by omega) (by unfold zB; split <;> omega) rfl
  · refine r_iload0 X dX5_isOutside_5 ?_
    refine r_iload2 X dX5_isOutside_6 ?_
    refine r_icmp_le (tgt := 14) X dX5_isOutside_7 ⟨⟨by omega, by omega⟩, by omega, by omega⟩ (fun h7 => ?_) (fun h7 => ?_)
    · refine r_iconst X dX5_isOutside_14 ?_
      exact r_zret X M dX5_isOutside_15 (by omega) (by unfold zB; split <;> omega) rfl
    · refine r_iconst X dX5_isOutside_10 ?_
      refine r_goto (tgt := 15) X dX5_isOutside_11 (by decide) ?_
      exact r_zret X M dX5_isOutside_15 (by omega) (by unfold zB; split <;> omega) rfl

set_option maxRecDepth 100000 in
set_option maxHeartbeats 4000000 in
theorem c_X5_isOnGrass (l : Launch) {D : va_G} {κ : Nat → ClassId} {a : Nat → Nat} {A : Nat → Prop} (hA : z_aD a A) (σ : zSt) (x y : Int) (hx : z_in x) (hy : z_in y) : z_Ti l D κ a A yX5_isOnGrass cX5_isOnGrass 2 (some .boolean) 1 [.int (zI x), .int (zI y)] σ (zB ((0 ≤ x ∧ x ≤ 40) ∧ 0 ≤ y ∧ y ≤ 40)) (σ) := by
  refine z_Ti_of (cc := cX5_isOnGrass) (maxL := 2) (ret := (some .boolean)) (own := RX5) (lv0 := [some (.int (zI x)), some (.int (zI y))]) hA (by decide) rfl (Nat.le_of_ble_eq_true rfl) rfl ?_
  intro p e s mm below meth c X M
  refine r_iload0 X dX5_isOnGrass_0 ?_
  refine r_iconst X dX5_isOnGrass_1 ?_
  refine r_bipush X dX5_isOnGrass_2 (by decide +kernel) ?_
  refine r_callSi (n := 3) X (c_X5_isOutside l X.2.2.1 _ _ _ _ ⟨by omega, by omega⟩ ⟨by omega, by omega⟩ ⟨by omega, by omega⟩) dX5_isOnGrass_4 tw_259 tw_260 tw_40 tw_261 rfl (Nat.le_of_ble_eq_true rfl) ⟨by decide, by decide⟩ (by decide +kernel) rfl ?_
  refine r_if_neB (tgt := 24) X dX5_isOnGrass_7 (fun h7 => ?_) (fun h7 => ?_)
  · refine r_iconst X dX5_isOnGrass_24 ?_
    exact r_zret X M dX5_isOnGrass_25 (by omega) (by unfold zB; split <;> omega) rfl
  · refine r_iload1 X dX5_isOnGrass_10 ?_
    refine r_iconst X dX5_isOnGrass_11 ?_
    refine r_bipush X dX5_isOnGrass_12 (by decide +kernel) ?_
    refine r_callSi (n := 3) X (c_X5_isOutside l X.2.2.1 _ _ _ _ ⟨by omega, by omega⟩ ⟨by omega, by omega⟩ ⟨by omega, by omega⟩) dX5_isOnGrass_14 tw_259 tw_260 tw_40 tw_261 rfl (Nat.le_of_ble_eq_true rfl) ⟨by decide, by decide⟩ (by decide +kernel) rfl ?_
    refine r_if_neB (tgt := 24) X dX5_isOnGrass_17 (fun h17 => ?_) (fun h17 => ?_)
    · refine r_iconst X dX5_isOnGrass_24 ?_
      exact r_zret X M dX5_isOnGrass_25 (by omega) (by unfold zB; split <;> omega) rfl
    · refine r_iconst X dX5_isOnGrass_20 ?_
      refine r_goto (tgt := 25) X dX5_isOnGrass_21 (by decide) ?_
      exact r_zret X M dX5_isOnGrass_25 (by omega) (by unfold zB; split <;> omega) rfl

set_option maxRecDepth 100000 in
set_option maxHeartbeats 4000000 in
theorem c_X4_hasMarcher (l : Launch) {D : va_G} {κ : Nat → ClassId} {a : Nat → Nat} {A : Nat → Prop} (hA : z_aD a A) (σ : zSt) (b : Nat) (hb : b = 1 ∨ b = 25) (m : Int) (hm : z_in m) (hN : z_in (σ b 2)) : z_Ti l D κ a A yX4_hasMarcher cX4_hasMarcher 2 (some .boolean) 0 [.ref (a b), .int (zI m)] σ (zB (0 ≤ m ∧ m < σ b 2)) (σ) := by
  refine z_Ti_of (cc := cX4_hasMarcher) (maxL := 2) (ret := (some .boolean)) (own := RX4) (lv0 := [some (.ref (a b)), some (.int (zI m))]) hA (by decide) rfl (Nat.le_of_ble_eq_true rfl) rfl ?_
  intro p e s mm below meth c X M
  refine r_iload1 X dX4_hasMarcher_0 ?_
  refine r_if_lt (tgt := 16) X dX4_hasMarcher_1 ⟨by omega, by omega⟩ (fun h1 => ?_) (fun h1 => ?_)
  · refine r_iconst X dX4_hasMarcher_16 ?_
    exact r_zret X M dX4_hasMarcher_17 (by omega) (by unfold zB; split <;> omega) rfl
  · refine r_iload1 X dX4_hasMarcher_4 ?_
    refine r_aload0 X dX4_hasMarcher_5 ?_
    refine r_get X 2 dX4_hasMarcher_6 (z_cShow hb) in_X4 tw_105 (by omega) rfl rfl (by decide) ?_
    refine r_icmp_ge (tgt := 16) X dX4_hasMarcher_9 ⟨⟨by omega, by omega⟩, by omega, by omega⟩ (fun h9 => ?_) (fun h9 => ?_)
    · refine r_iconst X dX4_hasMarcher_16 ?_
      exact r_zret X M dX4_hasMarcher_17 (by omega) (by unfold zB; split <;> omega) rfl
    · refine r_iconst X dX4_hasMarcher_12 ?_
      refine r_goto (tgt := 17) X dX4_hasMarcher_13 (by decide) ?_
      exact r_zret X M dX4_hasMarcher_17 (by omega) (by unfold zB; split <;> omega) rfl

set_option maxRecDepth 100000 in
set_option maxHeartbeats 4000000 in
theorem c_X4_hasPicture (l : Launch) {D : va_G} {κ : Nat → ClassId} {a : Nat → Nat} {A : Nat → Prop} (hA : z_aD a A) (σ : zSt) (b : Nat) (hb : b = 1 ∨ b = 25) (m : Int) (hm : z_in m) (hN : z_in (σ b 4)) : z_Ti l D κ a A yX4_hasPicture cX4_hasPicture 2 (some .boolean) 0 [.ref (a b), .int (zI m)] σ (zB (0 ≤ m ∧ m < σ b 4)) (σ) := by
  refine z_Ti_of (cc := cX4_hasPicture) (maxL := 2) (ret := (some .boolean)) (own := RX4) (lv0 := [some (.ref (a b)), some (.int (zI m))]) hA (by decide) rfl (Nat.le_of_ble_eq_true rfl) rfl ?_
  intro p e s mm below meth c X M
  refine r_iload1 X dX4_hasPicture_0 ?_
  refine r_if_lt (tgt := 16) X dX4_hasPicture_1 ⟨by omega, by omega⟩ (fun h1 => ?_) (fun h1 => ?_)
  · refine r_iconst X dX4_hasPicture_16 ?_
    exact r_zret X M dX4_hasPicture_17 (by omega) (by unfold zB; split <;> omega) rfl
  · refine r_iload1 X dX4_hasPicture_4 ?_
    refine r_aload0 X dX4_hasPicture_5 ?_
    refine r_get X 4 dX4_hasPicture_6 (z_cShow hb) in_X4 tw_110 (by omega) rfl rfl (by decide) ?_
    refine r_icmp_ge (tgt := 16) X dX4_hasPicture_9 ⟨⟨by omega, by omega⟩, by omega, by omega⟩ (fun h9 => ?_) (fun h9 => ?_)
    · refine r_iconst X dX4_hasPicture_16 ?_
      exact r_zret X M dX4_hasPicture_17 (by omega) (by unfold zB; split <;> omega) rfl
    · refine r_iconst X dX4_hasPicture_12 ?_
      refine r_goto (tgt := 17) X dX4_hasPicture_13 (by decide) ?_
      exact r_zret X M dX4_hasPicture_17 (by omega) (by unfold zB; split <;> omega) rfl

set_option maxRecDepth 100000 in
set_option maxHeartbeats 4000000 in
theorem c_X0_hasDot (l : Launch) {D : va_G} {κ : Nat → ClassId} {a : Nat → Nat} {A : Nat → Prop} (hA : z_aD a A) (σ : zSt) (q : Nat) (hq : z_pic q) (m : Int) (hm : z_in m) (hN : z_in (σ q 3)) : z_Ti l D κ a A yX0_hasDot cX0_hasDot 2 (some .boolean) 0 [.ref (a q), .int (zI m)] σ (zB (0 ≤ m ∧ m < σ q 3)) (σ) := by
  refine z_Ti_of (cc := cX0_hasDot) (maxL := 2) (ret := (some .boolean)) (own := RX0) (lv0 := [some (.ref (a q)), some (.int (zI m))]) hA (by decide) rfl (Nat.le_of_ble_eq_true rfl) rfl ?_
  intro p e s mm below meth c X M
  refine r_iload1 X dX0_hasDot_0 ?_
  refine r_if_lt (tgt := 16) X dX0_hasDot_1 ⟨by omega, by omega⟩ (fun h1 => ?_) (fun h1 => ?_)
  · refine r_iconst X dX0_hasDot_16 ?_
    exact r_zret X M dX0_hasDot_17 (by omega) (by unfold zB; split <;> omega) rfl
  · refine r_iload1 X dX0_hasDot_4 ?_
    refine r_aload0 X dX0_hasDot_5 ?_
    refine r_get X 3 dX0_hasDot_6 (z_cPic hq) in_X0 tw_78 (by have := z_pic.lt hq; omega) rfl rfl (by decide) ?_
    refine r_icmp_ge (tgt := 16) X dX0_hasDot_9 ⟨⟨by omega, by omega⟩, by omega, by omega⟩ (fun h9 => ?_) (fun h9 => ?_)
    · refine r_iconst X dX0_hasDot_16 ?_
      exact r_zret X M dX0_hasDot_17 (by omega) (by unfold zB; split <;> omega) rfl
    · refine r_iconst X dX0_hasDot_12 ?_
      refine r_goto (tgt := 17) X dX0_hasDot_13 (by decide) ?_
      exact r_zret X M dX0_hasDot_17 (by omega) (by unfold zB; split <;> omega) rfl

set_option maxRecDepth 100000 in
set_option maxHeartbeats 4000000 in
theorem c_X0_xOf (l : Launch) {D : va_G} {κ : Nat → ClassId} {a : Nat → Nat} {A : Nat → Prop} (hA : z_aD a A) (σ : zSt) (q : Nat) (hq : z_pic q) (m : Int) (hm : z_in m) (hN : 0 ≤ σ q 3 ∧ σ q 3 ≤ 7) : z_Ti l D κ a A yX0_xOf cX0_xOf 2 (some .int) 1 [.ref (a q), .int (zI m)] σ (if 0 ≤ m ∧ m < σ q 3 then σ (q + 1) m else 0) (σ) := by
  refine z_Ti_of (cc := cX0_xOf) (maxL := 2) (ret := (some .int)) (own := RX0) (lv0 := [some (.ref (a q)), some (.int (zI m))]) hA (by decide) rfl (Nat.le_of_ble_eq_true rfl) rfl ?_
  intro p e s mm below meth c X M
  refine r_aload0 X dX0_xOf_0 ?_
  refine r_iload1 X dX0_xOf_1 ?_
  refine r_callVi (n := 1) X (c_X0_hasDot l X.2.2.1 _ _ hq _ ⟨by omega, by omega⟩ ⟨by omega, by omega⟩) dX0_xOf_2 tw_381 tw_357 tw_358 tw_42 tw_359 (z_cPic hq) (by have := z_pic.lt hq; omega) rfl rfl (Nat.le_of_ble_eq_true rfl) ⟨by decide, by decide⟩ (by decide +kernel) rfl ?_
  refine r_if_eqB (tgt := 17) X dX0_xOf_5 (fun h5 => ?_) (fun h5 => ?_)
  · refine r_iconst X dX0_xOf_17 ?_
    exact r_iret X M dX0_xOf_18 (by split <;> first | rfl | omega) rfl
  · refine r_aload0 X dX0_xOf_8 ?_
    refine r_get X 0 dX0_xOf_9 (z_cPic hq) in_X0 tw_71 (by have := z_pic.lt hq; omega) rfl rfl (by decide) ?_
    refine r_iload1 X dX0_xOf_12 ?_
    refine r_iald X dX0_xOf_13 (z_cPic1 hq) (by have := z_pic.lt hq; omega) ⟨by omega, by omega⟩ ?_
    refine r_goto (tgt := 18) X dX0_xOf_14 (by decide) ?_
    exact r_iret X M dX0_xOf_18 (by split <;> first | rfl | omega) rfl

set_option maxRecDepth 100000 in
set_option maxHeartbeats 4000000 in
theorem c_X0_yOf (l : Launch) {D : va_G} {κ : Nat → ClassId} {a : Nat → Nat} {A : Nat → Prop} (hA : z_aD a A) (σ : zSt) (q : Nat) (hq : z_pic q) (m : Int) (hm : z_in m) (hN : 0 ≤ σ q 3 ∧ σ q 3 ≤ 7) : z_Ti l D κ a A yX0_yOf cX0_yOf 2 (some .int) 1 [.ref (a q), .int (zI m)] σ (if 0 ≤ m ∧ m < σ q 3 then σ (q + 2) m else 0) (σ) := by
  refine z_Ti_of (cc := cX0_yOf) (maxL := 2) (ret := (some .int)) (own := RX0) (lv0 := [some (.ref (a q)), some (.int (zI m))]) hA (by decide) rfl (Nat.le_of_ble_eq_true rfl) rfl ?_
  intro p e s mm below meth c X M
  refine r_aload0 X dX0_yOf_0 ?_
  refine r_iload1 X dX0_yOf_1 ?_
  refine r_callVi (n := 1) X (c_X0_hasDot l X.2.2.1 _ _ hq _ ⟨by omega, by omega⟩ ⟨by omega, by omega⟩) dX0_yOf_2 tw_381 tw_357 tw_358 tw_42 tw_359 (z_cPic hq) (by have := z_pic.lt hq; omega) rfl rfl (Nat.le_of_ble_eq_true rfl) ⟨by decide, by decide⟩ (by decide +kernel) rfl ?_
  refine r_if_eqB (tgt := 17) X dX0_yOf_5 (fun h5 => ?_) (fun h5 => ?_)
  · refine r_iconst X dX0_yOf_17 ?_
    exact r_iret X M dX0_yOf_18 (by split <;> first | rfl | omega) rfl
  · refine r_aload0 X dX0_yOf_8 ?_
    refine r_get X 1 dX0_yOf_9 (z_cPic hq) in_X0 tw_73 (by have := z_pic.lt hq; omega) rfl rfl (by decide) ?_
    refine r_iload1 X dX0_yOf_12 ?_
    refine r_iald X dX0_yOf_13 (z_cPic2 hq) (by have := z_pic.lt hq; omega) ⟨by omega, by omega⟩ ?_
    refine r_goto (tgt := 18) X dX0_yOf_14 (by decide) ?_
    exact r_iret X M dX0_yOf_18 (by split <;> first | rfl | omega) rfl

set_option maxRecDepth 100000 in
set_option maxHeartbeats 4000000 in
theorem c_X0_hasRoomFor (l : Launch) {D : va_G} {κ : Nat → ClassId} {a : Nat → Nat} {A : Nat → Prop} (hA : z_aD a A) (σ : zSt) (q : Nat) (hq : z_pic q) (m : Int) (hm : -100 ≤ m ∧ m ≤ 100) (hN : 0 ≤ σ q 3 ∧ σ q 3 ≤ 7) : z_Ti l D κ a A yX0_hasRoomFor cX0_hasRoomFor 2 (some .boolean) 0 [.ref (a q), .int (zI m)] σ (zB (σ q 3 + m ≤ 7)) (σ) := by
  refine z_Ti_of (cc := cX0_hasRoomFor) (maxL := 2) (ret := (some .boolean)) (own := RX0) (lv0 := [some (.ref (a q)), some (.int (zI m))]) hA (by decide) rfl (Nat.le_of_ble_eq_true rfl) rfl ?_
  intro p e s mm below meth c X M
  refine r_aload0 X dX0_hasRoomFor_0 ?_
  refine r_get X 3 dX0_hasRoomFor_1 (z_cPic hq) in_X0 tw_78 (by have := z_pic.lt hq; omega) rfl rfl (by decide) ?_
  refine r_iload1 X dX0_hasRoomFor_4 ?_
  refine r_iadd X dX0_hasRoomFor_5 ?_
  refine r_bipush X dX0_hasRoomFor_6 (by decide +kernel) ?_
  refine r_icmp_gt (tgt := 15) X dX0_hasRoomFor_8 ⟨⟨by omega, by omega⟩, by omega, by omega⟩ (fun h8 => ?_) (fun h8 => ?_)
  · refine r_iconst X dX0_hasRoomFor_15 ?_
    exact r_zret X M dX0_hasRoomFor_16 (by omega) (by unfold zB; split <;> omega) rfl
  · refine r_iconst X dX0_hasRoomFor_11 ?_
    refine r_goto (tgt := 16) X dX0_hasRoomFor_12 (by decide) ?_
    exact r_zret X M dX0_hasRoomFor_16 (by omega) (by unfold zB; split <;> omega) rfl

set_option maxRecDepth 100000 in
set_option maxHeartbeats 4000000 in
theorem c_X0_begin (l : Launch) {D : va_G} {κ : Nat → ClassId} {a : Nat → Nat} {A : Nat → Prop} (hA : z_aD a A) (σ : zSt) (q : Nat) (hq : z_pic q) (m : Int) : z_Tv l D κ a A yX0_begin cX0_begin 2 none 0 [.ref (a q), .int (zI m)] σ (z_up (z_up σ q 4 m) q 3 0) := by
  refine z_Tv_of (cc := cX0_begin) (maxL := 2) (ret := none) (own := RX0) (lv0 := [some (.ref (a q)), some (.int (zI m))]) hA (by decide) rfl (Nat.le_of_ble_eq_true rfl) rfl ?_
  intro p e s mm below meth c X M
  refine r_aload0 X dX0_begin_0 ?_
  refine r_iload1 X dX0_begin_1 ?_
  refine r_put (ty := .int) X 4 4 dX0_begin_2 (z_cPic hq) in_X0 tw_81 tyX0 tyX0_ok nmX0 (by have := z_pic.lt hq; omega) rfl (by decide) rfl (by decide +kernel) rfl rfl (fun _ _ => rfl) (Nat.le_of_ble_eq_true rfl) ?_
  refine r_aload0 X dX0_begin_5 ?_
  refine r_iconst X dX0_begin_6 ?_
  refine r_put (ty := .int) X 3 3 dX0_begin_7 (z_cPic hq) in_X0 tw_78 tyX0 tyX0_ok nmX0 (by have := z_pic.lt hq; omega) rfl (by decide) rfl (by decide +kernel) rfl rfl (fun _ _ => rfl) (Nat.le_of_ble_eq_true rfl) ?_
  exact r_vret X M dX0_begin_10 rfl

set_option maxRecDepth 100000 in
set_option maxHeartbeats 4000000 in
theorem c_X1_forgetFrom (l : Launch) {D : va_G} {κ : Nat → ClassId} {a : Nat → Nat} {A : Nat → Prop} (hA : z_aD a A) (σ : zSt) (b : Nat) (hb : b = 52 ∨ b = 62) (f : Int) (hf : z_in f) (hk : z_in (σ b 5)) : z_Tv l D κ a A yX1_forgetFrom cX1_forgetFrom 2 none 1 [.ref (a b), .int (zI f)] σ (z_up σ b 5 (min (σ b 5) f)) := by
  refine z_Tv_of (cc := cX1_forgetFrom) (maxL := 2) (ret := none) (own := RX1) (lv0 := [some (.ref (a b)), some (.int (zI f))]) hA (by decide) rfl (Nat.le_of_ble_eq_true rfl) rfl ?_
  intro p e s mm below meth c X M
  refine r_aload0 X dX1_forgetFrom_0 ?_
  refine r_aload0 X dX1_forgetFrom_1 ?_
  refine r_get X 5 dX1_forgetFrom_2 (z_cPlan hb) in_X1 tw_222 (by omega) rfl rfl (by decide) ?_
  refine r_iload1 X dX1_forgetFrom_5 ?_
  refine r_mmin X dX1_forgetFrom_6 ⟨⟨by omega, by omega⟩, by omega, by omega⟩ tw_266 tw_267 tw_47 tw_268 ⟨by decide, Nat.le_of_ble_eq_true rfl⟩ ?_
  refine r_put (ty := .int) X 5 5 dX1_forgetFrom_9 (z_cPlan hb) in_X1 tw_222 tyX1 tyX1_ok nmX1 (by omega) rfl (by decide) rfl (by decide +kernel) rfl rfl (fun _ _ => rfl) (Nat.le_of_ble_eq_true rfl) ?_
  exact r_vret X M dX1_forgetFrom_12 rfl

set_option maxRecDepth 100000 in
set_option maxHeartbeats 4000000 in
theorem c_X1_dotOf (l : Launch) {D : va_G} {κ : Nat → ClassId} {a : Nat → Nat} {A : Nat → Prop} (hA : z_aD a A) (σ : zSt) (b : Nat) (hb : b = 52 ∨ b = 62) (K : Nat) (hK : K < 5) (m : Int) (hm : 0 ≤ m ∧ m < 6) : z_Ti l D κ a A yX1_dotOf cX1_dotOf 3 (some .int) 0 [.ref (a b), .int (zI (K : Int)), .int (zI m)] σ (σ (b + 5 + K) m) (σ) := by
  refine z_Ti_of (cc := cX1_dotOf) (maxL := 3) (ret := (some .int)) (own := RX1) (lv0 := [some (.ref (a b)), some (.int (zI (K : Int))), some (.int (zI m))]) hA (by decide) rfl (Nat.le_of_ble_eq_true rfl) rfl ?_
  intro p e s mm below meth c X M
  refine r_aload0 X dX1_dotOf_0 ?_
  refine r_get X 3 dX1_dotOf_1 (z_cPlan hb) in_X1 tw_220 (by omega) rfl rfl (by decide) ?_
  refine r_iload1 X dX1_dotOf_4 ?_
  refine r_gald (k := K) X dX1_dotOf_5 hb hK ?_
  refine r_iload2 X dX1_dotOf_6 ?_
  refine r_iald X dX1_dotOf_7 (z_cPlan5 hb hK) (by omega) ⟨by omega, by omega⟩ ?_
  exact r_iret X M dX1_dotOf_8 rfl rfl

