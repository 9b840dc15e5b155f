/-- the number that 32 bits hold -/
def wr (x : Int) : Int := (zI x).toInt
theorem wr_in (x : Int) : z_in (wr x) := zI_rng _
theorem zI_wr (x : Int) : zI x = zI (wr x) := zI_of _
theorem wr_id {x : Int} (h : z_in x) : wr x = x := zI_toInt h
theorem r_wr {p : Program} {l : Launch} {e : Env} {R : Room} {s : State} {m : MethodId} {args : Array Value} {below : List Frame} {meth : Method} {c : Code} {nL : Nat} {D : va_G} {κ : Nat → ClassId} {a : Nat → Nat} {A : Nat → Prop} {kc ks : Nat} {Q : State → Prop} {σ : zSt} {lv : List (Option Value)} {pc : Nat} {st : List Value} {x : Int} (k : z_G p l e R s m args below meth c nL D κ a A kc ks Q σ lv pc (.int (zI (wr x)) :: st)) : z_G p l e R s m args below meth c nL D κ a A kc ks Q σ lv pc (.int (zI x) :: st) := by rw [zI_wr x]; exact k
theorem u_put_c {V : zV} {q : Int} {sx sy tx ty : Int → Int} : ∀ (n : Nat), (∀ j : Int, 0 ≤ j → j < (n : Int) → sx j = tx j ∧ sy j = ty j) → u_put V q sx sy n = u_put V q tx ty n
  | 0, _ => rfl
  | n + 1, h => by
    rw [u_put_s, u_put_s, u_put_c n (fun j a b => h j a (by omega)), (h (n : Int) (by omega) (by omega)).1, (h (n : Int) (by omega) (by omega)).2]
theorem p_ok_c {fX fY gX gY sx sy tx ty : Int → Int} {nd md n : Int} (hn : nd = md) (h1 : ∀ d : Int, 0 ≤ d → d < nd → fX d = gX d ∧ fY d = gY d) (h2 : ∀ j : Int, 0 ≤ j → j < n → sx j = tx j ∧ sy j = ty j) : p_ok fX fY sx sy nd n ↔ p_ok gX gY tx ty md n :=
  ⟨fun h k a b => (p_free_c a hn h1 (fun j j0 j1 => h2 j j0 (by omega))).mp (h k a b), fun h k a b => (p_free_c a hn h1 (fun j j0 j1 => h2 j j0 (by omega))).mpr (h k a b)⟩
/-- a shape that begins on the numbers of 32 bits and is small: what 32 bits hold of it is as free as it is -/
theorem put_wr {V : zV} {q n : Int} {sx sy : Int → Int} (hn : 1 ≤ n) (h0 : z_in (sx 0) ∧ z_in (sy 0)) (hs : ∀ j : Int, 0 ≤ j → j < n → (-1000 ≤ sx j - sx 0 ∧ sx j - sx 0 ≤ 1000) ∧ -1000 ≤ sy j - sy 0 ∧ sy j - sy 0 ≤ 1000) : (p_at V q (fun j => wr (sx j)) (fun j => wr (sy j)) n ↔ p_at V q sx sy n) ∧ (p_at V q sx sy n → ∀ j : Int, 0 ≤ j → j < n → wr (sx j) = sx j ∧ wr (sy j) = sy j) := by
  have key : ((0 ≤ sx 0 ∧ sx 0 ≤ 40) ∧ 0 ≤ sy 0 ∧ sy 0 ≤ 40) → ∀ j : Int, 0 ≤ j → j < n → wr (sx j) = sx j ∧ wr (sy j) = sy j := fun h j a b => by
    have := hs j a b
    exact ⟨wr_id ⟨by omega, by omega⟩, wr_id ⟨by omega, by omega⟩⟩
  have k2 : p_at V q sx sy n → ((0 ≤ sx 0 ∧ sx 0 ≤ 40) ∧ 0 ≤ sy 0 ∧ sy 0 ≤ 40) := fun h => (h 0 (by omega) (by omega)).1.1
  have k3 : p_at V q (fun j => wr (sx j)) (fun j => wr (sy j)) n → ((0 ≤ sx 0 ∧ sx 0 ≤ 40) ∧ 0 ≤ sy 0 ∧ sy 0 ≤ 40) := fun h => by
    have h1 := (h 0 (by omega) (by omega)).1.1
    simp only [wr_id h0.1, wr_id h0.2] at h1
    exact h1
  refine ⟨⟨fun h => (p_ok_c rfl (fun _ _ _ => ⟨rfl, rfl⟩) (fun j a b => key (k3 h) j a b)).mp h, fun h => (p_ok_c rfl (fun _ _ _ => ⟨rfl, rfl⟩) (fun j a b => key (k2 h) j a b)).mpr h⟩, fun h => key (k2 h)⟩

set_option maxRecDepth 100000 in
set_option maxHeartbeats 4000000 in
theorem c_X3_put (l : Launch) {D : va_G} {κ : Nat → ClassId} {a : Nat → Nat} {A : Nat → Prop} (hA : z_aD a A) (σ : zSt) (x y : Int) (h : 0 ≤ σ 49 2 ∧ σ 49 2 < 7) : z_Tv l D κ a A yX3_put cX3_put 3 none 0 [.ref (a 49), .int (zI x), .int (zI y)] σ (z_up (z_up (z_up σ 50 (σ 49 2) x) 51 (σ 49 2) y) 49 2 (σ 49 2 + 1)) := by
  refine z_Tv_of (cc := cX3_put) (maxL := 3) (ret := none) (own := RX3) (lv0 := [some (.ref (a 49)), some (.int (zI x)), some (.int (zI y))]) hA (by decide) rfl (Nat.le_of_ble_eq_true rfl) rfl ?_
  intro p e s mm below meth c X M
  refine r_aload0 X dX3_put_0 ?_
  refine r_get X 2 dX3_put_1 z_c49 in_X3 tw_151 (by decide) rfl rfl (by decide) ?_
  refine r_bipush X dX3_put_4 (by decide +kernel) ?_
  refine r_icmp_ge (tgt := 39) X dX3_put_6 ⟨⟨by omega, by omega⟩, by omega, by omega⟩ (fun h6 => ?_) (fun h6 => ?_)
  · exact r_vret X M dX3_put_39 (by first | rfl | (exfalso; omega))
  · refine r_aload0 X dX3_put_9 ?_
    refine r_get X 0 dX3_put_10 z_c49 in_X3 tw_147 (by decide) rfl rfl (by decide) ?_
    refine r_aload0 X dX3_put_13 ?_
    refine r_get X 2 dX3_put_14 z_c49 in_X3 tw_151 (by decide) rfl rfl (by decide) ?_
    refine r_iload1 X dX3_put_17 ?_
    refine r_iast X dX3_put_18 z_c50 (by decide) ⟨by omega, by omega⟩ ?_
    refine r_aload0 X dX3_put_19 ?_
    refine r_get X 1 dX3_put_20 z_c49 in_X3 tw_149 (by decide) rfl rfl (by decide) ?_
    refine r_aload0 X dX3_put_23 ?_
    refine r_get X 2 dX3_put_24 z_c49 in_X3 tw_151 (by decide) rfl rfl (by decide) ?_
    refine r_eqi (y := σ 49 2) (by repeat rw [z_up_c (by decide)]) ?_
    refine r_iload2 X dX3_put_27 ?_
    refine r_iast X dX3_put_28 z_c51 (by decide) ⟨by omega, by omega⟩ ?_
    refine r_aload0 X dX3_put_29 ?_
    refine r_dup X dX3_put_30 rfl ?_
    refine r_get X 2 dX3_put_31 z_c49 in_X3 tw_151 (by decide) rfl rfl (by decide) ?_
    refine r_eqi (y := σ 49 2) (by repeat rw [z_up_c (by decide)]) ?_
    refine r_iconst X dX3_put_34 ?_
    refine r_iadd X dX3_put_35 ?_
    refine r_put (ty := .int) X 2 2 dX3_put_36 z_c49 in_X3 tw_151 tyX3 tyX3_ok nmX3 (by decide) rfl (by decide) rfl (by decide +kernel) rfl rfl (fun _ _ => rfl) (Nat.le_of_ble_eq_true rfl) ?_
    exact r_vret X M dX3_put_39 (by first | rfl | (exfalso; omega))

/-- the shape holds n dots sx, sy, and nothing else has changed -/
def zSh (σ σ' : zSt) (n : Int) (sx sy : Int → Int) : Prop := (∀ c : Nat, c ≠ 49 → c ≠ 50 → c ≠ 51 → σ' c = σ c) ∧ σ' 49 2 = n ∧ ∀ j : Int, 0 ≤ j → j < n → σ' 50 j = sx j ∧ σ' 51 j = sy j
theorem zSh.put {σ σ1 : zSt} {n x y : Int} {sx sy : Int → Int} (h : zSh σ σ1 n sx sy) (hst : x = sx n ∧ y = sy n) : zSh σ (z_up (z_up (z_up σ1 50 (σ1 49 2) x) 51 (σ1 49 2) y) 49 2 (σ1 49 2 + 1)) (n + 1) sx sy := by
  obtain ⟨h1, h2, h3⟩ := h
  refine ⟨fun c a b d => ?_, ?_, fun j a b => ?_⟩
  · rw [z_up_c a, z_up_c d, z_up_c b]; exact h1 c a b d
  · rw [z_up_s, h2]
  · rw [h2]
    simp only [z_up_a]
    by_cases e : j = n
    · subst e
      simp
      exact hst
    · simp [e]
      exact h3 j a (by omega)
theorem zSh.zero (σ : zSt) (sx sy : Int → Int) : zSh σ (z_up σ 49 2 0) 0 sx sy := ⟨fun c a _ _ => z_up_c a, z_up_s, fun j a b => by omega⟩

set_option maxRecDepth 100000 in
set_option maxHeartbeats 4000000 in
theorem c_X3_becomeLine (l : Launch) {D : va_G} {κ : Nat → ClassId} {a : Nat → Nat} {A : Nat → Prop} (hA : z_aD a A) (σ : zSt) (n x y dx dy : Int) (hn : 0 ≤ n ∧ n ≤ 7) : z_Tq l D κ a A yX3_becomeLine cX3_becomeLine 7 none 1 [.ref (a 49), .int (zI n), .int (zI x), .int (zI y), .int (zI dx), .int (zI dy)] σ (fun σ' => zSh σ σ' n (sx_line x dx) (sx_line y dy)) := by
  refine z_Tq_of (cc := cX3_becomeLine) (maxL := 7) (ret := none) (own := RX3) (lv0 := [some (.ref (a 49)), some (.int (zI n)), some (.int (zI x)), some (.int (zI y)), some (.int (zI dx)), some (.int (zI dy)), none]) hA (by decide) rfl (Nat.le_of_ble_eq_true rfl) rfl ?_
  intro p e s mm below meth c X M
  refine r_aload0 X dX3_becomeLine_0 ?_
  refine r_iconst X dX3_becomeLine_1 ?_
  refine r_put (ty := .int) X 2 2 dX3_becomeLine_2 z_c49 in_X3 tw_151 tyX3 tyX3_ok nmX3 (by decide) rfl (by decide) rfl (by decide +kernel) rfl rfl (fun _ _ => rfl) (Nat.le_of_ble_eq_true rfl) ?_
  refine r_iconst X dX3_becomeLine_5 ?_
  refine r_istore6 X dX3_becomeLine_6 ?_
  have L : ∀ (fu : Nat) (i : Int) (σ1 : zSt), (n - i) < (fu : Int) → 0 ≤ i → i ≤ n → zSh σ σ1 i (sx_line x dx) (sx_line y dy) → z_G p l e (z_rm 1) s mm ([.ref (a 49), .int (zI n), .int (zI x), .int (zI y), .int (zI dx), .int (zI dy)] : List Value).toArray below meth c 7 D κ a A 0 0 (MQ below (z_Qq D κ a A (fun σ' => zSh σ σ' n (sx_line x dx) (sx_line y dy))) ([.ref (a 49), .int (zI n), .int (zI x), .int (zI y), .int (zI dx), .int (zI dy)] : List Value).toArray s 0 0 A) σ1 [some (.ref (a 49)), some (.int (zI n)), some (.int (zI x)), some (.int (zI y)), some (.int (zI dx)), some (.int (zI dy)), some (.int (zI i))] 8 [] := by
    intro fu
    induction fu with
    | zero =>
      intro i σ1 hn h0 h1 hU
      omega
    | succ fu ihL =>
      intro i σ1 hn h0 h1 hU
      have h49 := hU.2.1
      refine r_iload6 X dX3_becomeLine_8 ?_
      refine r_iload1 X dX3_becomeLine_10 ?_
      refine r_icmp_ge (tgt := 38) X dX3_becomeLine_11 ⟨⟨by omega, by omega⟩, by omega, by omega⟩ (fun h11 => ?_) (fun h11 => ?_)
      · exact r_vretp X M dX3_becomeLine_38 (show zSh σ σ1 n _ _ from (show i = n by omega) ▸ hU)
      · refine r_aload0 X dX3_becomeLine_14 ?_
        refine r_iload2 X dX3_becomeLine_15 ?_
        refine r_iload6 X dX3_becomeLine_16 ?_
        refine r_iload4 X dX3_becomeLine_18 ?_
        refine r_imul X dX3_becomeLine_20 ?_
        refine r_iadd X dX3_becomeLine_21 ?_
        refine r_iload3 X dX3_becomeLine_22 ?_
        refine r_iload6 X dX3_becomeLine_23 ?_
        refine r_iload5 X dX3_becomeLine_25 ?_
        refine r_imul X dX3_becomeLine_27 ?_
        refine r_iadd X dX3_becomeLine_28 ?_
        refine r_callVv (n := 2) X (c_X3_put l X.2.2.1 _ _ _ ⟨by omega, by omega⟩) dX3_becomeLine_29 tw_309 tw_311 tw_0 tw_43 tw_312 z_c49 (by decide) rfl rfl (Nat.le_of_ble_eq_true rfl) ⟨by decide, by decide⟩ (by decide +kernel) rfl ?_
        refine r_iinc6 X dX3_becomeLine_32 ?_
        refine r_goto (tgt := 8) X dX3_becomeLine_35 (by decide) ?_
        exact ihL (i + 1) _ (by omega) (by omega) (by omega) (hU.put ⟨rfl, rfl⟩)
  exact L 8 0 _ (by omega) (by omega) (by omega) (zSh.zero σ _ _)

set_option maxRecDepth 100000 in
set_option maxHeartbeats 4000000 in
theorem c_X3_becomeBlock (l : Launch) {D : va_G} {κ : Nat → ClassId} {a : Nat → Nat} {A : Nat → Prop} (hA : z_aD a A) (σ : zSt) (x y w h g : Int) (hw : 1 ≤ w ∧ w ≤ 4) (hh : 1 ≤ h ∧ h ≤ 4) (hwh : w * h ≤ 7) : z_Tq l D κ a A yX3_becomeBlock cX3_becomeBlock 8 none 1 [.ref (a 49), .int (zI x), .int (zI y), .int (zI w), .int (zI h), .int (zI g)] σ (fun σ' => zSh σ σ' (w * h) (sx_block x w g) (sy_block y w g)) := by
  refine z_Tq_of (cc := cX3_becomeBlock) (maxL := 8) (ret := none) (own := RX3) (lv0 := [some (.ref (a 49)), some (.int (zI x)), some (.int (zI y)), some (.int (zI w)), some (.int (zI h)), some (.int (zI g)), none, none]) hA (by decide) rfl (Nat.le_of_ble_eq_true rfl) rfl ?_
  intro p e s mm below meth c X M
  refine r_aload0 X dX3_becomeBlock_0 ?_
  refine r_iconst X dX3_becomeBlock_1 ?_
  refine r_put (ty := .int) X 2 2 dX3_becomeBlock_2 z_c49 in_X3 tw_151 tyX3 tyX3_ok nmX3 (by decide) rfl (by decide) rfl (by decide +kernel) rfl rfl (fun _ _ => rfl) (Nat.le_of_ble_eq_true rfl) ?_
  refine r_iconst X dX3_becomeBlock_5 ?_
  refine r_istore6 X dX3_becomeBlock_6 ?_
  have L : ∀ (fu : Nat) (r : Int) (o7 : Option Value) (σ1 : zSt), (h - r) < (fu : Int) → 0 ≤ r → r ≤ h → zSh σ σ1 (r * w) (sx_block x w g) (sy_block y w g) → z_G p l e (z_rm 1) s mm ([.ref (a 49), .int (zI x), .int (zI y), .int (zI w), .int (zI h), .int (zI g)] : List Value).toArray below meth c 8 D κ a A 0 0 (MQ below (z_Qq D κ a A (fun σ' => zSh σ σ' (w * h) (sx_block x w g) (sy_block y w g))) ([.ref (a 49), .int (zI x), .int (zI y), .int (zI w), .int (zI h), .int (zI g)] : List Value).toArray s 0 0 A) σ1 [some (.ref (a 49)), some (.int (zI x)), some (.int (zI y)), some (.int (zI w)), some (.int (zI h)), some (.int (zI g)), some (.int (zI r)), o7] 8 [] := by
    intro fu
    induction fu with
    | zero =>
      intro r o7 σ1 hn h0 h1 hU
      omega
    | succ fu ihL =>
      intro r o7 σ1 hn h0 h1 hU
      refine r_iload6 X dX3_becomeBlock_8 ?_
      refine r_iload4 X dX3_becomeBlock_10 ?_
      refine r_icmp_ge (tgt := 54) X dX3_becomeBlock_12 ⟨⟨by omega, by omega⟩, by omega, by omega⟩ (fun h12 => ?_) (fun h12 => ?_)
      · exact r_vretp X M dX3_becomeBlock_54 (show zSh σ σ1 (w * h) _ _ from (show r * w = w * h by rw [show r = h by omega, Int.mul_comm]) ▸ hU)
      · have hrw : r * w + w ≤ 7 := by
          have e1 : (r + 1) * w ≤ h * w := Int.mul_le_mul_of_nonneg_right (by omega) (by omega)
          rw [Int.add_mul, Int.one_mul, Int.mul_comm h w] at e1
          omega
        have hrw0 : 0 ≤ r * w := Int.mul_nonneg h0 (by omega)
        refine r_iconst X dX3_becomeBlock_15 ?_
        refine r_istore7 X dX3_becomeBlock_16 ?_
        have L2 : ∀ (fu : Nat) (k : Int) (σ2 : zSt), (w - k) < (fu : Int) → 0 ≤ k → k ≤ w → zSh σ σ2 (r * w + k) (sx_block x w g) (sy_block y w g) → z_G p l e (z_rm 1) s mm ([.ref (a 49), .int (zI x), .int (zI y), .int (zI w), .int (zI h), .int (zI g)] : List Value).toArray below meth c 8 D κ a A 0 0 (MQ below (z_Qq D κ a A (fun σ' => zSh σ σ' (w * h) (sx_block x w g) (sy_block y w g))) ([.ref (a 49), .int (zI x), .int (zI y), .int (zI w), .int (zI h), .int (zI g)] : List Value).toArray s 0 0 A) σ2 [some (.ref (a 49)), some (.int (zI x)), some (.int (zI y)), some (.int (zI w)), some (.int (zI h)), some (.int (zI g)), some (.int (zI r)), some (.int (zI k))] 18 [] := by
          intro fu
          induction fu with
          | zero =>
            intro k σ2 hn k0 k1 hU2
            omega
          | succ fu ihL2 =>
            intro k σ2 hn k0 k1 hU2
            have h49 := hU2.2.1
            refine r_iload7 X dX3_becomeBlock_18 ?_
            refine r_iload3 X dX3_becomeBlock_20 ?_
            refine r_icmp_ge (tgt := 48) X dX3_becomeBlock_21 ⟨⟨by omega, by omega⟩, by omega, by omega⟩ (fun h21 => ?_) (fun h21 => ?_)
            · refine r_iinc6 X dX3_becomeBlock_48 ?_
              refine r_goto (tgt := 8) X dX3_becomeBlock_51 (by decide) ?_
              exact ihL (r + 1) _ _ (by omega) (by omega) (by omega) (by rw [show (r + 1) * w = r * w + k by rw [Int.add_mul, Int.one_mul]; omega]; exact hU2)
            · have hst : x + k * g = sx_block x w g (r * w + k) ∧ y + r * g = sy_block y w g (r * w + k) := by
                unfold sx_block sy_block
                rw [show r * w + k = k + r * w by omega, Int.add_mul_emod_self_right, Int.add_mul_ediv_right _ _ (by omega), Int.emod_eq_of_lt (by omega) (by omega), Int.ediv_eq_zero_of_lt (by omega) (by omega), Int.zero_add]
                exact ⟨rfl, rfl⟩
              refine r_aload0 X dX3_becomeBlock_24 ?_
              refine r_iload1 X dX3_becomeBlock_25 ?_
              refine r_iload7 X dX3_becomeBlock_26 ?_
              refine r_iload5 X dX3_becomeBlock_28 ?_
              refine r_imul X dX3_becomeBlock_30 ?_
              refine r_iadd X dX3_becomeBlock_31 ?_
              refine r_iload2 X dX3_becomeBlock_32 ?_
              refine r_iload6 X dX3_becomeBlock_33 ?_
              refine r_iload5 X dX3_becomeBlock_35 ?_
              refine r_imul X dX3_becomeBlock_37 ?_
              refine r_iadd X dX3_becomeBlock_38 ?_
              refine r_callVv (n := 2) X (c_X3_put l X.2.2.1 _ _ _ ⟨by omega, by omega⟩) dX3_becomeBlock_39 tw_309 tw_311 tw_0 tw_43 tw_312 z_c49 (by decide) rfl rfl (Nat.le_of_ble_eq_true rfl) ⟨by decide, by decide⟩ (by decide +kernel) rfl ?_
              refine r_iinc7 X dX3_becomeBlock_42 ?_
              refine r_goto (tgt := 18) X dX3_becomeBlock_45 (by decide) ?_
              exact ihL2 (k + 1) _ (by omega) (by omega) (by omega) (by rw [show r * w + (k + 1) = r * w + k + 1 by omega]; exact hU2.put hst)
        exact L2 8 0 _ (by omega) (by omega) (by omega) (by rw [Int.add_zero]; exact hU)
  exact L 8 0 none _ (by omega) (by omega) (by omega) (by rw [Int.zero_mul]; exact zSh.zero σ _ _)

set_option maxRecDepth 100000 in
set_option maxHeartbeats 4000000 in
theorem c_X3_becomeCorner (l : Launch) {D : va_G} {κ : Nat → ClassId} {a : Nat → Nat} {A : Nat → Prop} (hA : z_aD a A) (σ : zSt) (x y n g : Int) (hn : 1 ≤ n ∧ 2 * n - 1 ≤ 7) : z_Tq l D κ a A yX3_becomeCorner cX3_becomeCorner 6 none 1 [.ref (a 49), .int (zI x), .int (zI y), .int (zI n), .int (zI g)] σ (fun σ' => zSh σ σ' (2 * n - 1) (sx_corner x n g) (sy_corner y n g)) := by
  refine z_Tq_of (cc := cX3_becomeCorner) (maxL := 6) (ret := none) (own := RX3) (lv0 := [some (.ref (a 49)), some (.int (zI x)), some (.int (zI y)), some (.int (zI n)), some (.int (zI g)), none]) hA (by decide) rfl (Nat.le_of_ble_eq_true rfl) rfl ?_
  intro p e s mm below meth c X M
  refine r_aload0 X dX3_becomeCorner_0 ?_
  refine r_iconst X dX3_becomeCorner_1 ?_
  refine r_put (ty := .int) X 2 2 dX3_becomeCorner_2 z_c49 in_X3 tw_151 tyX3 tyX3_ok nmX3 (by decide) rfl (by decide) rfl (by decide +kernel) rfl rfl (fun _ _ => rfl) (Nat.le_of_ble_eq_true rfl) ?_
  refine r_iconst X dX3_becomeCorner_5 ?_
  refine r_istore5 X dX3_becomeCorner_6 ?_
  have L : ∀ (fu : Nat) (i : Int) (σ1 : zSt), (n - i) < (fu : Int) → 0 ≤ i → i ≤ n → zSh σ σ1 i (sx_corner x n g) (sy_corner y n g) → z_G p l e (z_rm 1) s mm ([.ref (a 49), .int (zI x), .int (zI y), .int (zI n), .int (zI g)] : List Value).toArray below meth c 6 D κ a A 0 0 (MQ below (z_Qq D κ a A (fun σ' => zSh σ σ' (2 * n - 1) (sx_corner x n g) (sy_corner y n g))) ([.ref (a 49), .int (zI x), .int (zI y), .int (zI n), .int (zI g)] : List Value).toArray s 0 0 A) σ1 [some (.ref (a 49)), some (.int (zI x)), some (.int (zI y)), some (.int (zI n)), some (.int (zI g)), some (.int (zI i))] 8 [] := by
    intro fu
    induction fu with
    | zero =>
      intro i σ1 hn h0 h1 hU
      omega
    | succ fu ihL =>
      intro i σ1 hn h0 h1 hU
      have h49 := hU.2.1
      refine r_iload5 X dX3_becomeCorner_8 ?_
      refine r_iload3 X dX3_becomeCorner_10 ?_
      refine r_icmp_ge (tgt := 32) X dX3_becomeCorner_11 ⟨⟨by omega, by omega⟩, by omega, by omega⟩ (fun h11 => ?_) (fun h11 => ?_)
      · refine r_iconst X dX3_becomeCorner_32 ?_
        refine r_istore5 X dX3_becomeCorner_33 ?_
        have L2 : ∀ (fu : Nat) (i : Int) (σ2 : zSt), (n - i) < (fu : Int) → 1 ≤ i → i ≤ n → zSh σ σ2 (n + i - 1) (sx_corner x n g) (sy_corner y n g) → z_G p l e (z_rm 1) s mm ([.ref (a 49), .int (zI x), .int (zI y), .int (zI n), .int (zI g)] : List Value).toArray below meth c 6 D κ a A 0 0 (MQ below (z_Qq D κ a A (fun σ' => zSh σ σ' (2 * n - 1) (sx_corner x n g) (sy_corner y n g))) ([.ref (a 49), .int (zI x), .int (zI y), .int (zI n), .int (zI g)] : List Value).toArray s 0 0 A) σ2 [some (.ref (a 49)), some (.int (zI x)), some (.int (zI y)), some (.int (zI n)), some (.int (zI g)), some (.int (zI i))] 35 [] := by
          intro fu
          induction fu with
          | zero =>
            intro i σ2 hn h0 h1 hU2
            omega
          | succ fu ihL2 =>
            intro i σ2 hn h0 h1 hU2
            have h49 := hU2.2.1
            refine r_iload5 X dX3_becomeCorner_35 ?_
            refine r_iload3 X dX3_becomeCorner_37 ?_
            refine r_icmp_ge (tgt := 66) X dX3_becomeCorner_38 ⟨⟨by omega, by omega⟩, by omega, by omega⟩ (fun h38 => ?_) (fun h38 => ?_)
            · exact r_vretp X M dX3_becomeCorner_66 (show zSh σ σ2 (2 * n - 1) _ _ from (show n + i - 1 = 2 * n - 1 by omega) ▸ hU2)
            · refine r_aload0 X dX3_becomeCorner_41 ?_
              refine r_iload1 X dX3_becomeCorner_42 ?_
              refine r_iload3 X dX3_becomeCorner_43 ?_
              refine r_iconst X dX3_becomeCorner_44 ?_
              refine r_isub X dX3_becomeCorner_45 ?_
              refine r_iload4 X dX3_becomeCorner_46 ?_
              refine r_imul X dX3_becomeCorner_48 ?_
              refine r_iadd X dX3_becomeCorner_49 ?_
              refine r_iload2 X dX3_becomeCorner_50 ?_
              refine r_iload5 X dX3_becomeCorner_51 ?_
              refine r_iload4 X dX3_becomeCorner_53 ?_
              refine r_imul X dX3_becomeCorner_55 ?_
              refine r_iadd X dX3_becomeCorner_56 ?_
              refine r_callVv (n := 2) X (c_X3_put l X.2.2.1 _ _ _ ⟨by omega, by omega⟩) dX3_becomeCorner_57 tw_309 tw_311 tw_0 tw_43 tw_312 z_c49 (by decide) rfl rfl (Nat.le_of_ble_eq_true rfl) ⟨by decide, by decide⟩ (by decide +kernel) rfl ?_
              refine r_iinc5 X dX3_becomeCorner_60 ?_
              refine r_goto (tgt := 35) X dX3_becomeCorner_63 (by decide) ?_
              exact ihL2 (i + 1) _ (by omega) (by omega) (by omega) (by rw [show n + (i + 1) - 1 = n + i - 1 + 1 by omega]; exact hU2.put ⟨by unfold sx_corner; rw [if_neg (by omega)], by unfold sy_corner; rw [if_neg (by omega), show n + i - 1 - n + 1 = i by omega]⟩)
        exact L2 8 1 _ (by omega) (by omega) (by omega) (by rw [show n + 1 - 1 = i by omega]; exact hU)
      · refine r_aload0 X dX3_becomeCorner_14 ?_
        refine r_iload1 X dX3_becomeCorner_15 ?_
        refine r_iload5 X dX3_becomeCorner_16 ?_
        refine r_iload4 X dX3_becomeCorner_18 ?_
        refine r_imul X dX3_becomeCorner_20 ?_
        refine r_iadd X dX3_becomeCorner_21 ?_
        refine r_iload2 X dX3_becomeCorner_22 ?_
        refine r_callVv (n := 2) X (c_X3_put l X.2.2.1 _ _ _ ⟨by omega, by omega⟩) dX3_becomeCorner_23 tw_309 tw_311 tw_0 tw_43 tw_312 z_c49 (by decide) rfl rfl (Nat.le_of_ble_eq_true rfl) ⟨by decide, by decide⟩ (by decide +kernel) rfl ?_
        refine r_iinc5 X dX3_becomeCorner_26 ?_
        refine r_goto (tgt := 8) X dX3_becomeCorner_29 (by decide) ?_
        exact ihL (i + 1) _ (by omega) (by omega) (by omega) (hU.put ⟨by unfold sx_corner; rw [if_pos (by omega)], by unfold sy_corner; rw [if_pos (by omega), Int.zero_mul, Int.add_zero]⟩)
  exact L 8 0 _ (by omega) (by omega) (by omega) (zSh.zero σ _ _)

set_option maxRecDepth 100000 in
set_option maxHeartbeats 4000000 in
theorem c_X3_hasTwins (l : Launch) {D : va_G} {κ : Nat → ClassId} {a : Nat → Nat} {A : Nat → Prop} (hA : z_aD a A) (σ : zSt) (hn : 0 ≤ σ 49 2 ∧ σ 49 2 ≤ 7) : z_Tp l D κ a A yX3_hasTwins cX3_hasTwins 3 (some .boolean) 0 [.ref (a 49)] σ (fun z σ' => σ' = σ ∧ (z = 0 ∨ z = 1) ∧ (z = 0 ↔ ∀ i : Int, 0 ≤ i → i < σ 49 2 → ∀ j : Int, 0 ≤ j → j < i → ¬ (wr (σ 50 j) = wr (σ 50 i) ∧ wr (σ 51 j) = wr (σ 51 i)))) := by
  refine z_Tp_of (cc := cX3_hasTwins) (maxL := 3) (ret := (some .boolean)) (own := RX3) (lv0 := [some (.ref (a 49)), none, none]) hA (by decide) rfl (Nat.le_of_ble_eq_true rfl) rfl ?_
  intro p e s mm below meth c X M
  refine r_iconst X dX3_hasTwins_0 ?_
  refine r_istore1 X dX3_hasTwins_1 ?_
  have L : ∀ (fu : Nat) (i : Int) (o2 : Option Value), (σ 49 2 - i) < (fu : Int) → 0 ≤ i → i ≤ σ 49 2 → (∀ k : Int, 0 ≤ k → k < i → ∀ j : Int, 0 ≤ j → j < k → ¬ (wr (σ 50 j) = wr (σ 50 k) ∧ wr (σ 51 j) = wr (σ 51 k))) → z_G p l e (z_rm 0) s mm ([.ref (a 49)] : List Value).toArray below meth c 3 D κ a A 0 0 (MQ below (z_Qp D κ a A (fun z σ' => σ' = σ ∧ (z = 0 ∨ z = 1) ∧ (z = 0 ↔ ∀ i : Int, 0 ≤ i → i < σ 49 2 → ∀ j : Int, 0 ≤ j → j < i → ¬ (wr (σ 50 j) = wr (σ 50 i) ∧ wr (σ 51 j) = wr (σ 51 i))))) ([.ref (a 49)] : List Value).toArray s 0 0 A) σ [some (.ref (a 49)), some (.int (zI i)), o2] 2 [] := by
    intro fu
    induction fu with
    | zero =>
      intro i o2 hn h0 h1 hf
      omega
    | succ fu ihL =>
      intro i o2 hn h0 h1 hf
      refine r_iload1 X dX3_hasTwins_2 ?_
      refine r_aload0 X dX3_hasTwins_3 ?_
      refine r_get X 2 dX3_hasTwins_4 z_c49 in_X3 tw_151 (by decide) rfl rfl (by decide) ?_
      refine r_icmp_ge (tgt := 61) X dX3_hasTwins_7 ⟨⟨by omega, by omega⟩, by omega, by omega⟩ (fun h7 => ?_) (fun h7 => ?_)
      · refine r_iconst X dX3_hasTwins_61 ?_
        exact r_zretp X M dX3_hasTwins_62 (by omega) ⟨rfl, by omega, ⟨fun _ i2 a b => hf i2 a (by omega), fun _ => rfl⟩⟩
      · refine r_iconst X dX3_hasTwins_10 ?_
        refine r_istore2 X dX3_hasTwins_11 ?_
        have L2 : ∀ (fu : Nat) (j : Int), (i - j) < (fu : Int) → 0 ≤ j → j ≤ i → (∀ t : Int, 0 ≤ t → t < j → ¬ (wr (σ 50 t) = wr (σ 50 i) ∧ wr (σ 51 t) = wr (σ 51 i))) → z_G p l e (z_rm 0) s mm ([.ref (a 49)] : List Value).toArray below meth c 3 D κ a A 0 0 (MQ below (z_Qp D κ a A (fun z σ' => σ' = σ ∧ (z = 0 ∨ z = 1) ∧ (z = 0 ↔ ∀ i : Int, 0 ≤ i → i < σ 49 2 → ∀ j : Int, 0 ≤ j → j < i → ¬ (wr (σ 50 j) = wr (σ 50 i) ∧ wr (σ 51 j) = wr (σ 51 i))))) ([.ref (a 49)] : List Value).toArray s 0 0 A) σ [some (.ref (a 49)), some (.int (zI i)), some (.int (zI j))] 12 [] := by
          intro fu
          induction fu with
          | zero =>
            intro j hn j0 j1 hg
            omega
          | succ fu ihL2 =>
            intro j hn j0 j1 hg
            refine r_iload2 X dX3_hasTwins_12 ?_
            refine r_iload1 X dX3_hasTwins_13 ?_
            refine r_icmp_ge (tgt := 55) X dX3_hasTwins_14 ⟨⟨by omega, by omega⟩, by omega, by omega⟩ (fun h14 => ?_) (fun h14 => ?_)
            · refine r_iinc1 X dX3_hasTwins_55 ?_
              refine r_goto (tgt := 2) X dX3_hasTwins_58 (by decide) ?_
              exact ihL (i + 1) _ (by omega) (by omega) (by omega) ((z_all_s h0).mpr ⟨hf, fun t t0 t1 => hg t t0 (by omega)⟩)
            · refine r_aload0 X dX3_hasTwins_17 ?_
              refine r_get X 0 dX3_hasTwins_18 z_c49 in_X3 tw_147 (by decide) rfl rfl (by decide) ?_
              refine r_iload1 X dX3_hasTwins_21 ?_
              refine r_iald X dX3_hasTwins_22 z_c50 (by decide) ⟨by omega, by omega⟩ ?_
              refine r_wr ?_
              refine r_aload0 X dX3_hasTwins_23 ?_
              refine r_get X 0 dX3_hasTwins_24 z_c49 in_X3 tw_147 (by decide) rfl rfl (by decide) ?_
              refine r_iload2 X dX3_hasTwins_27 ?_
              refine r_iald X dX3_hasTwins_28 z_c50 (by decide) ⟨by omega, by omega⟩ ?_
              refine r_wr ?_
              refine r_icmp_ne (tgt := 49) X dX3_hasTwins_29 ⟨wr_in _, wr_in _⟩ (fun h29 => ?_) (fun h29 => ?_)
              · refine r_iinc2 X dX3_hasTwins_49 ?_
                refine r_goto (tgt := 12) X dX3_hasTwins_52 (by decide) ?_
                exact ihL2 (j + 1) (by omega) (by omega) (by omega) ((z_all_s j0).mpr ⟨hg, fun q => by first | exact h29 q.1.symm | exact h44 q.2.symm⟩)
              · refine r_aload0 X dX3_hasTwins_32 ?_
                refine r_get X 1 dX3_hasTwins_33 z_c49 in_X3 tw_149 (by decide) rfl rfl (by decide) ?_
                refine r_iload1 X dX3_hasTwins_36 ?_
                refine r_iald X dX3_hasTwins_37 z_c51 (by decide) ⟨by omega, by omega⟩ ?_
                refine r_wr ?_
                refine r_aload0 X dX3_hasTwins_38 ?_
                refine r_get X 1 dX3_hasTwins_39 z_c49 in_X3 tw_149 (by decide) rfl rfl (by decide) ?_
                refine r_iload2 X dX3_hasTwins_42 ?_
                refine r_iald X dX3_hasTwins_43 z_c51 (by decide) ⟨by omega, by omega⟩ ?_
                refine r_wr ?_
                refine r_icmp_ne (tgt := 49) X dX3_hasTwins_44 ⟨wr_in _, wr_in _⟩ (fun h44 => ?_) (fun h44 => ?_)
                · refine r_iinc2 X dX3_hasTwins_49 ?_
                  refine r_goto (tgt := 12) X dX3_hasTwins_52 (by decide) ?_
                  exact ihL2 (j + 1) (by omega) (by omega) (by omega) ((z_all_s j0).mpr ⟨hg, fun q => by first | exact h29 q.1.symm | exact h44 q.2.symm⟩)
                · refine r_iconst X dX3_hasTwins_47 ?_
                  exact r_zretp X M dX3_hasTwins_48 (by omega) ⟨rfl, by omega, ⟨fun h => by omega, fun h => absurd ⟨h29.symm, h44.symm⟩ (h i (by omega) (by omega) j (by omega) (by omega))⟩⟩
        exact L2 8 0 (by omega) (by omega) (by omega) (fun k _ _ => by omega)
  exact L 8 0 none (by omega) (by omega) (by omega) (fun k _ _ => by omega)

set_option maxRecDepth 100000 in
set_option maxHeartbeats 4000000 in
theorem c_X0_hasDotAt (l : Launch) {D : va_G} {κ : Nat → ClassId} {a : Nat → Nat} {A : Nat → Prop} (hA : z_aD a A) (σ : zSt) (q : Nat) (hq : z_pic q) (x y : Int) (hx : z_in x) (hy : z_in y) (hN : 0 ≤ σ q 3 ∧ σ q 3 ≤ 7) (hr : ∀ d : Int, 0 ≤ d → d < 7 → (0 ≤ σ (q + 1) d ∧ σ (q + 1) d ≤ 40) ∧ 0 ≤ σ (q + 2) d ∧ σ (q + 2) d ≤ 40) : z_Tp l D κ a A yX0_hasDotAt cX0_hasDotAt 4 (some .boolean) 0 [.ref (a q), .int (zI x), .int (zI y)] σ (fun z σ' => σ' = σ ∧ (z = 0 ∨ z = 1) ∧ (z = 0 ↔ ∀ d : Int, 0 ≤ d → d < σ q 3 → ¬ (σ (q + 1) d = x ∧ σ (q + 2) d = y))) := by
  refine z_Tp_of (cc := cX0_hasDotAt) (maxL := 4) (ret := (some .boolean)) (own := RX0) (lv0 := [some (.ref (a q)), some (.int (zI x)), some (.int (zI y)), none]) hA (by decide) rfl (Nat.le_of_ble_eq_true rfl) rfl ?_
  intro p e s mm below meth c X M
  refine r_iconst X dX0_hasDotAt_0 ?_
  refine r_istore3 X dX0_hasDotAt_1 ?_
  have L : ∀ (fu : Nat) (d : Int), (σ q 3 - d) < (fu : Int) → 0 ≤ d → d ≤ σ q 3 → (∀ t : Int, 0 ≤ t → t < d → ¬ (σ (q + 1) t = x ∧ σ (q + 2) t = y)) → z_G p l e (z_rm 0) s mm ([.ref (a q), .int (zI x), .int (zI y)] : List Value).toArray below meth c 4 D κ a A 0 0 (MQ below (z_Qp D κ a A (fun z σ' => σ' = σ ∧ (z = 0 ∨ z = 1) ∧ (z = 0 ↔ ∀ d : Int, 0 ≤ d → d < σ q 3 → ¬ (σ (q + 1) d = x ∧ σ (q + 2) d = y)))) ([.ref (a q), .int (zI x), .int (zI y)] : List Value).toArray s 0 0 A) σ [some (.ref (a q)), some (.int (zI x)), some (.int (zI y)), some (.int (zI d))] 2 [] := by
    intro fu
    induction fu with
    | zero =>
      intro d hn h0 h1 hf
      omega
    | succ fu ihL =>
      intro d hn h0 h1 hf
      refine r_iload3 X dX0_hasDotAt_2 ?_
      refine r_aload0 X dX0_hasDotAt_3 ?_
      refine r_get X 3 dX0_hasDotAt_4 (z_cPic hq) in_X0 tw_78 (by have := z_pic.lt hq; omega) rfl rfl (by decide) ?_
      refine r_icmp_ge (tgt := 38) X dX0_hasDotAt_7 ⟨⟨by omega, by omega⟩, by omega, by omega⟩ (fun h7 => ?_) (fun h7 => ?_)
      · refine r_iconst X dX0_hasDotAt_38 ?_
        exact r_zretp X M dX0_hasDotAt_39 (by omega) ⟨rfl, by omega, ⟨fun _ t a b => hf t a (by omega), fun _ => rfl⟩⟩
      · have hxd := hr d (by omega) (by omega)
        refine r_aload0 X dX0_hasDotAt_10 ?_
        refine r_get X 0 dX0_hasDotAt_11 (z_cPic hq) in_X0 tw_71 (by have := z_pic.lt hq; omega) rfl rfl (by decide) ?_
        refine r_iload3 X dX0_hasDotAt_14 ?_
        refine r_iald X dX0_hasDotAt_15 (z_cPic1 hq) (by have := z_pic.lt hq; omega) ⟨by omega, by omega⟩ ?_
        refine r_iload1 X dX0_hasDotAt_16 ?_
        refine r_icmp_ne (tgt := 32) X dX0_hasDotAt_17 ⟨⟨by omega, by omega⟩, by omega, by omega⟩ (fun h17 => ?_) (fun h17 => ?_)
        · refine r_iinc3 X dX0_hasDotAt_32 ?_
          refine r_goto (tgt := 2) X dX0_hasDotAt_35 (by decide) ?_
          exact ihL (d + 1) (by omega) (by omega) (by omega) ((z_all_s h0).mpr ⟨hf, fun q => by first | exact h17 q.1 | exact h27 q.2⟩)
        · refine r_aload0 X dX0_hasDotAt_20 ?_
          refine r_get X 1 dX0_hasDotAt_21 (z_cPic hq) in_X0 tw_73 (by have := z_pic.lt hq; omega) rfl rfl (by decide) ?_
          refine r_iload3 X dX0_hasDotAt_24 ?_
          refine r_iald X dX0_hasDotAt_25 (z_cPic2 hq) (by have := z_pic.lt hq; omega) ⟨by omega, by omega⟩ ?_
          refine r_iload2 X dX0_hasDotAt_26 ?_
          refine r_icmp_ne (tgt := 32) X dX0_hasDotAt_27 ⟨⟨by omega, by omega⟩, by omega, by omega⟩ (fun h27 => ?_) (fun h27 => ?_)
          · refine r_iinc3 X dX0_hasDotAt_32 ?_
            refine r_goto (tgt := 2) X dX0_hasDotAt_35 (by decide) ?_
            exact ihL (d + 1) (by omega) (by omega) (by omega) ((z_all_s h0).mpr ⟨hf, fun q => by first | exact h17 q.1 | exact h27 q.2⟩)
          · refine r_iconst X dX0_hasDotAt_30 ?_
            exact r_zretp X M dX0_hasDotAt_31 (by omega) ⟨rfl, by omega, ⟨fun h => by omega, fun h => absurd ⟨h17, h27⟩ (h d (by omega) (by omega))⟩⟩
  exact L 8 0 (by omega) (by omega) (by omega) (fun k _ _ => by omega)

set_option maxRecDepth 100000 in
set_option maxHeartbeats 4000000 in
theorem c_X0_canTake (l : Launch) {D : va_G} {κ : Nat → ClassId} {a : Nat → Nat} {A : Nat → Prop} (hA : z_aD a A) (σ : zSt) (q : Nat) (hq : z_pic q) (hnn : 0 ≤ σ 49 2 ∧ σ 49 2 ≤ 7) (hN : 0 ≤ σ q 3 ∧ σ q 3 ≤ 7) (hr : ∀ d : Int, 0 ≤ d → d < 7 → (0 ≤ σ (q + 1) d ∧ σ (q + 1) d ≤ 40) ∧ 0 ≤ σ (q + 2) d ∧ σ (q + 2) d ≤ 40) : z_Tp l D κ a A yX0_canTake cX0_canTake 3 (some .boolean) 2 [.ref (a q), .ref (a 49)] σ (fun z σ' => σ' = σ ∧ (z = 0 ∨ z = 1) ∧ (z = 1 ↔ p_ok (σ (q + 1)) (σ (q + 2)) (fun j => wr (σ 50 j)) (fun j => wr (σ 51 j)) (σ q 3) (σ 49 2))) := by
  refine z_Tp_of (cc := cX0_canTake) (maxL := 3) (ret := (some .boolean)) (own := RX0) (lv0 := [some (.ref (a q)), some (.ref (a 49)), none]) hA (by decide) rfl (Nat.le_of_ble_eq_true rfl) rfl ?_
  intro p e s mm below meth c X M
  refine r_iconst X dX0_canTake_0 ?_
  refine r_istore2 X dX0_canTake_1 ?_
  have L : ∀ (fu : Nat) (i : Int), (σ 49 2 - i) < (fu : Int) → 0 ≤ i → i ≤ σ 49 2 → (∀ k : Int, 0 ≤ k → k < i → ((0 ≤ wr (σ 50 k) ∧ wr (σ 50 k) ≤ 40) ∧ 0 ≤ wr (σ 51 k) ∧ wr (σ 51 k) ≤ 40) ∧ ∀ d : Int, 0 ≤ d → d < σ q 3 → ¬ (σ (q + 1) d = wr (σ 50 k) ∧ σ (q + 2) d = wr (σ 51 k))) → z_G p l e (z_rm 2) s mm ([.ref (a q), .ref (a 49)] : List Value).toArray below meth c 3 D κ a A 0 0 (MQ below (z_Qp D κ a A (fun z σ' => σ' = σ ∧ (z = 0 ∨ z = 1) ∧ (z = 1 ↔ p_ok (σ (q + 1)) (σ (q + 2)) (fun j => wr (σ 50 j)) (fun j => wr (σ 51 j)) (σ q 3) (σ 49 2)))) ([.ref (a q), .ref (a 49)] : List Value).toArray s 0 0 A) σ [some (.ref (a q)), some (.ref (a 49)), some (.int (zI i))] 2 [] := by
    intro fu
    induction fu with
    | zero =>
      intro i hn h0 h1 hf
      omega
    | succ fu ihL =>
      intro i hn h0 h1 hf
      refine r_iload2 X dX0_canTake_2 ?_
      refine r_aload1 X dX0_canTake_3 ?_
      refine r_get X 2 dX0_canTake_4 z_c49 in_X3 tw_152 (by decide) rfl rfl (by decide) ?_
      refine r_icmp_ge (tgt := 55) X dX0_canTake_7 ⟨⟨by omega, by omega⟩, by omega, by omega⟩ (fun h7 => ?_) (fun h7 => ?_)
      · refine r_aload1 X dX0_canTake_55 ?_
        refine r_callVp (n := 0) X (c_X3_hasTwins l X.2.2.1 _ hnn) dX0_canTake_56 tw_328 tw_329 tw_330 tw_43 tw_331 z_c49 (by decide) rfl rfl (Nat.le_of_ble_eq_true rfl) ⟨by decide, by decide⟩ (by decide +kernel) rfl (fun tz σ1 htz => ?_)
        have hs1 := htz.1
        subst hs1
        refine r_if_ne (tgt := 66) X dX0_canTake_59 ⟨by omega, by omega⟩ (fun h59 => ?_) (fun h59 => ?_)
        · refine r_iconst X dX0_canTake_66 ?_
          exact r_zretp X M dX0_canTake_67 (by omega) ⟨rfl, by omega, ⟨fun h => fun k a b => by first | (exfalso; omega) | exact ⟨⟨(hf k a (by omega)).1, htz.2.2.mp (by omega) k a b⟩, (hf k a (by omega)).2⟩, fun h => by first | rfl | (exfalso; exact h59 (htz.2.2.mpr (fun t a b => (h t a b).1.2)))⟩⟩
        · refine r_iconst X dX0_canTake_62 ?_
          refine r_goto (tgt := 67) X dX0_canTake_63 (by decide) ?_
          exact r_zretp X M dX0_canTake_67 (by omega) ⟨rfl, by omega, ⟨fun h => fun k a b => by first | (exfalso; omega) | exact ⟨⟨(hf k a (by omega)).1, htz.2.2.mp (by omega) k a b⟩, (hf k a (by omega)).2⟩, fun h => by first | rfl | (exfalso; exact h59 (htz.2.2.mpr (fun t a b => (h t a b).1.2)))⟩⟩
      · refine r_aload1 X dX0_canTake_10 ?_
        refine r_get X 0 dX0_canTake_11 z_c49 in_X3 tw_148 (by decide) rfl rfl (by decide) ?_
        refine r_iload2 X dX0_canTake_14 ?_
        refine r_iald X dX0_canTake_15 z_c50 (by decide) ⟨by omega, by omega⟩ ?_
        refine r_wr ?_
        refine r_aload1 X dX0_canTake_16 ?_
        refine r_get X 1 dX0_canTake_17 z_c49 in_X3 tw_150 (by decide) rfl rfl (by decide) ?_
        refine r_iload2 X dX0_canTake_20 ?_
        refine r_iald X dX0_canTake_21 z_c51 (by decide) ⟨by omega, by omega⟩ ?_
        refine r_wr ?_
        refine r_callSNi (n := 2) X (c_X5_isOnGrass l X.2.2.1 _ _ _ (wr_in _) (wr_in _)) dX0_canTake_22 tw_323 X.2.1.2.1 tw_322 tw_40 rfl (Nat.le_of_ble_eq_true rfl) ⟨by decide, by decide⟩ (by decide +kernel) rfl ?_
        refine r_if_eqB (tgt := 47) X dX0_canTake_25 (fun h25 => ?_) (fun h25 => ?_)
        · refine r_iconst X dX0_canTake_47 ?_
          exact r_zretp X M dX0_canTake_48 (by omega) ⟨rfl, by omega, ⟨fun h => by omega, fun h => by first | exact absurd (h i (by omega) (by omega)).1.1 h25 | (exfalso; exact h44 (hdz.2.2.mpr (h i (by omega) (by omega)).2))⟩⟩
        · refine r_aload0 X dX0_canTake_28 ?_
          refine r_aload1 X dX0_canTake_29 ?_
          refine r_get X 0 dX0_canTake_30 z_c49 in_X3 tw_148 (by decide) rfl rfl (by decide) ?_
          refine r_iload2 X dX0_canTake_33 ?_
          refine r_iald X dX0_canTake_34 z_c50 (by decide) ⟨by omega, by omega⟩ ?_
          refine r_wr ?_
          refine r_aload1 X dX0_canTake_35 ?_
          refine r_get X 1 dX0_canTake_36 z_c49 in_X3 tw_150 (by decide) rfl rfl (by decide) ?_
          refine r_iload2 X dX0_canTake_39 ?_
          refine r_iald X dX0_canTake_40 z_c51 (by decide) ⟨by omega, by omega⟩ ?_
          refine r_wr ?_
          refine r_callVp (n := 2) X (c_X0_hasDotAt l X.2.2.1 _ q hq _ _ (wr_in _) (wr_in _) hN hr) dX0_canTake_41 tw_324 tw_326 tw_2 tw_42 tw_327 (z_cPic hq) (by have := z_pic.lt hq; omega) rfl rfl (Nat.le_of_ble_eq_true rfl) ⟨by decide, by decide⟩ (by decide +kernel) rfl (fun dz σ1 hdz => ?_)
          have hs1 := hdz.1
          subst hs1
          refine r_if_eq (tgt := 49) X dX0_canTake_44 ⟨by omega, by omega⟩ (fun h44 => ?_) (fun h44 => ?_)
          · refine r_iinc2 X dX0_canTake_49 ?_
            refine r_goto (tgt := 2) X dX0_canTake_52 (by decide) ?_
            exact ihL (i + 1) (by omega) (by omega) (by omega) ((z_all_s h0).mpr ⟨hf, h25, hdz.2.2.mp h44⟩)
          · refine r_iconst X dX0_canTake_47 ?_
            exact r_zretp X M dX0_canTake_48 (by omega) ⟨rfl, by omega, ⟨fun h => by omega, fun h => by first | exact absurd (h i (by omega) (by omega)).1.1 h25 | (exfalso; exact h44 (hdz.2.2.mpr (h i (by omega) (by omega)).2))⟩⟩
  exact L 8 0 (by omega) (by omega) (by omega) (fun k _ _ => by omega)

