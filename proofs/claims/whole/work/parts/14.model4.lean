def sx_line (x dx : Int) : Int → Int := fun i => x + i * dx
noncomputable def s_line (V : zV) (q n x y dx dy : Int) : Int := if (0 ≤ q ∧ q < V 1) ∧ (1 ≤ n ∧ n ≤ 7) ∧ (-10 ≤ dx ∧ dx ≤ 10) ∧ -10 ≤ dy ∧ dy ≤ 10 then s_put V q n (sx_line x dx) (sx_line y dy) else -1
def u_line (V : zV) (q n x y dx dy : Int) : zV := u_put V q (sx_line x dx) (sx_line y dy) n.toNat
def sx_block (x w g : Int) : Int → Int := fun i => x + i % w * g
def sy_block (y w g : Int) : Int → Int := fun i => y + i / w * g
noncomputable def s_block (V : zV) (q x y w h g : Int) : Int := if (0 ≤ q ∧ q < V 1) ∧ (1 ≤ w ∧ w ≤ 4) ∧ (1 ≤ h ∧ h ≤ 4) ∧ 1 ≤ g ∧ g ≤ 5 then s_put V q (w * h) (sx_block x w g) (sy_block y w g) else -1
def u_block (V : zV) (q x y w h g : Int) : zV := u_put V q (sx_block x w g) (sy_block y w g) (w * h).toNat
def sx_corner (x n g : Int) : Int → Int := fun i => x + (if i < n then i else n - 1) * g
def sy_corner (y n g : Int) : Int → Int := fun i => y + (if i < n then 0 else i - n + 1) * g
noncomputable def s_corner (V : zV) (q x y n g : Int) : Int := if (0 ≤ q ∧ q < V 1) ∧ (1 ≤ n ∧ n ≤ 4) ∧ 1 ≤ g ∧ g ≤ 5 then s_put V q (2 * n - 1) (sx_corner x n g) (sy_corner y n g) else -1
def u_corner (V : zV) (q x y n g : Int) : zV := u_put V q (sx_corner x n g) (sy_corner y n g) (2 * n - 1).toNat
theorem lay_J {σ1 : zSt} {k x y : Int} {sx sy : Int → Int} (h80 : σ1 80 8 = k) (hJ : ∀ j : Int, 0 ≤ j → j < k → σ1 86 j = sx j ∧ σ1 87 j = sy j) (hst : x = sx k ∧ y = sy k) : ∀ j : Int, 0 ≤ j → j < k + 1 → z_up (z_up (z_up σ1 86 (σ1 80 8) x) 87 (σ1 80 8) y) 80 8 (σ1 80 8 + 1) 86 j = sx j ∧ z_up (z_up (z_up σ1 86 (σ1 80 8) x) 87 (σ1 80 8) y) 80 8 (σ1 80 8 + 1) 87 j = sy j := by
  intro j j0 j1
  rw [h80]
  simp only [z_up_a]
  by_cases e : j = k
  · subst e
    simp
    exact hst
  · simp [e]
    exact hJ j j0 (by omega)
theorem z_mul_b {a b A B : Int} (h1 : -A ≤ a ∧ a ≤ A) (h2 : -B ≤ b ∧ b ≤ B) (hA : 0 ≤ A) (hB : 0 ≤ B) : -(A * B) ≤ a * b ∧ a * b ≤ A * B := by
  have q1 : a * b ≤ A * B := by
    rcases Int.le_total 0 b with hb | hb
    · exact Int.le_trans (Int.mul_le_mul_of_nonneg_right h1.2 hb) (Int.mul_le_mul_of_nonneg_left h2.2 hA)
    · have e1 : a * b ≤ (-A) * b := Int.mul_le_mul_of_nonpos_right h1.1 hb
      have e2 : (-A) * b = A * (-b) := by rw [Int.neg_mul, Int.mul_neg]
      have e3 : A * (-b) ≤ A * B := Int.mul_le_mul_of_nonneg_left (by omega) hA
      omega
  have q2 : -(A * B) ≤ a * b := by
    rcases Int.le_total 0 b with hb | hb
    · have e1 : (-A) * b ≤ a * b := Int.mul_le_mul_of_nonneg_right h1.1 hb
      have e2 : (-A) * b = -(A * b) := Int.neg_mul A b
      have e3 : A * b ≤ A * B := Int.mul_le_mul_of_nonneg_left h2.2 hA
      omega
    · have e1 : A * b ≤ a * b := Int.mul_le_mul_of_nonpos_right h1.2 hb
      have e2 : A * b = -(A * (-b)) := by rw [Int.mul_neg, Int.neg_neg]
      have e3 : A * (-b) ≤ A * B := Int.mul_le_mul_of_nonneg_left (by omega) hA
      omega
  exact ⟨q2, q1⟩

set_option maxRecDepth 100000 in
set_option maxHeartbeats 4000000 in
theorem c_X6_line (l : Launch) {D : va_G} {κ : Nat → ClassId} {a : Nat → Nat} {A : Nat → Prop} (hA : z_aD a A) (σ : zSt) (q n x y dx dy : Int) (hq : z_in q) (hn : z_in n) (hx : z_in x) (hy : z_in y) (hdx : z_in dx) (hdy : z_in dy) (V : zV) (hV : v_ok V) (hM : zModel σ V) : z_Tp l D κ a A yX6_line cX6_line 8 (some .int) 3 [.ref (a 80), .int (zI q), .int (zI n), .int (zI x), .int (zI y), .int (zI dx), .int (zI dy)] σ (fun z σ' => z = s_line V q n x y dx dy ∧ zMup σ σ' (z_if z V (u_line V q n x y dx dy))) := by
  refine z_Tp_of (cc := cX6_line) (maxL := 8) (ret := (some .int)) (own := RX6) (lv0 := [some (.ref (a 80)), some (.int (zI q)), some (.int (zI n)), some (.int (zI x)), some (.int (zI y)), some (.int (zI dx)), some (.int (zI dy)), none]) hA (by decide) rfl (Nat.le_of_ble_eq_true rfl) rfl ?_
  intro p e s mm below meth c X M
  obtain ⟨⟨hv0, hv1, hv2, hv3, hv4, hv5⟩, hvm, hvb, hvk, hvc, hvd⟩ := id hV
  have e0 := hM.1 0 (by omega) (by omega)
  have e1 := hM.1 1 (by omega) (by omega)
  refine r_aload0 X dX6_line_0 ?_
  refine r_iload1 X dX6_line_1 ?_
  refine r_callVi (n := 1) X (c_X6_isPicture l X.2.2.1 _ _ ⟨by omega, by omega⟩ ⟨by omega, by omega⟩) dX6_line_2 tw_643 tw_645 tw_17 tw_46 tw_646 z_c80 (by decide) rfl rfl (Nat.le_of_ble_eq_true rfl) ⟨by decide, by decide⟩ (by decide +kernel) rfl ?_
  refine r_if_eqB (tgt := 50) X dX6_line_5 (fun h5 => ?_) (fun h5 => ?_)
  · refine r_iconst X dX6_line_50 ?_
    exact r_iretp X M dX6_line_51 ⟨by unfold s_line; rw [if_neg (by omega)], by rw [zIf_n (by omega)]; exact zMup.refl hM⟩
  · refine r_iload2 X dX6_line_8 ?_
    refine r_i2l X dX6_line_9 ⟨by omega, by omega⟩ ?_
    refine r_lconst X dX6_line_10 1 (by decide +kernel) ?_
    refine r_ldc2 X dX6_line_11 7 (by decide +kernel) tw_651 ?_
    refine r_callSi (n := 3) X (c_X6_in l X.2.2.1 _ _ _ _ ⟨by omega, by omega⟩ ⟨by omega, by omega⟩ ⟨by omega, by omega⟩) dX6_line_14 tw_619 tw_620 tw_46 tw_621 rfl (Nat.le_of_ble_eq_true rfl) ⟨by decide, by decide⟩ (by decide +kernel) rfl ?_
    refine r_if_eqB (tgt := 50) X dX6_line_17 (fun h17 => ?_) (fun h17 => ?_)
    · refine r_iconst X dX6_line_50 ?_
      exact r_iretp X M dX6_line_51 ⟨by unfold s_line; rw [if_neg (by omega)], by rw [zIf_n (by omega)]; exact zMup.refl hM⟩
    · refine r_iload5 X dX6_line_20 ?_
      refine r_i2l X dX6_line_22 ⟨by omega, by omega⟩ ?_
      refine r_ldc2 X dX6_line_23 (-10) (by decide +kernel) tw_652 ?_
      refine r_ldc2 X dX6_line_26 10 (by decide +kernel) tw_653 ?_
      refine r_callSi (n := 3) X (c_X6_in l X.2.2.1 _ _ _ _ ⟨by omega, by omega⟩ ⟨by omega, by omega⟩ ⟨by omega, by omega⟩) dX6_line_29 tw_619 tw_620 tw_46 tw_621 rfl (Nat.le_of_ble_eq_true rfl) ⟨by decide, by decide⟩ (by decide +kernel) rfl ?_
      refine r_if_eqB (tgt := 50) X dX6_line_32 (fun h32 => ?_) (fun h32 => ?_)
      · refine r_iconst X dX6_line_50 ?_
        exact r_iretp X M dX6_line_51 ⟨by unfold s_line; rw [if_neg (by omega)], by rw [zIf_n (by omega)]; exact zMup.refl hM⟩
      · refine r_iload6 X dX6_line_35 ?_
        refine r_i2l X dX6_line_37 ⟨by omega, by omega⟩ ?_
        refine r_ldc2 X dX6_line_38 (-10) (by decide +kernel) tw_652 ?_
        refine r_ldc2 X dX6_line_41 10 (by decide +kernel) tw_653 ?_
        refine r_callSi (n := 3) X (c_X6_in l X.2.2.1 _ _ _ _ ⟨by omega, by omega⟩ ⟨by omega, by omega⟩ ⟨by omega, by omega⟩) dX6_line_44 tw_619 tw_620 tw_46 tw_621 rfl (Nat.le_of_ble_eq_true rfl) ⟨by decide, by decide⟩ (by decide +kernel) rfl ?_
        refine r_if_neB (tgt := 52) X dX6_line_47 (fun h47 => ?_) (fun h47 => ?_)
        · refine r_aload0 X dX6_line_52 ?_
          refine r_iconst X dX6_line_53 ?_
          refine r_put (ty := .int) X 8 8 dX6_line_54 z_c80 in_X6 tw_566 tyX6 tyX6_ok nmX6 (by decide) rfl (by decide) rfl (by decide +kernel) rfl rfl (fun _ _ => rfl) (Nat.le_of_ble_eq_true rfl) ?_
          refine r_iconst X dX6_line_57 ?_
          refine r_istore7 X dX6_line_58 ?_
          have hcn : 1 ≤ n ∧ n ≤ 16 := by omega
          have hsr : ∀ j : Int, 0 ≤ j → j < n → (-9000000000 ≤ sx_line x dx j ∧ sx_line x dx j ≤ 9000000000) ∧ -9000000000 ≤ sx_line y dy j ∧ sx_line y dy j ≤ 9000000000 := fun j j0 j1 => by
            have m1 := z_mul_b (a := j) (b := dx) (A := 7) (B := 10) (by omega) (by omega) (by omega) (by omega)
            have m2 := z_mul_b (a := j) (b := dy) (A := 7) (B := 10) (by omega) (by omega) (by omega) (by omega)
            unfold sx_line
            omega
          have L : ∀ (fu : Nat) (k : Int) (σ1 : zSt), (n - k) < (fu : Int) → 0 ≤ k → k ≤ n → zMup σ σ1 V → σ1 80 8 = k → (∀ j : Int, 0 ≤ j → j < k → σ1 86 j = (sx_line x dx) j ∧ σ1 87 j = (sx_line y dy) j) → z_G p l e (z_rm 3) s mm ([.ref (a 80), .int (zI q), .int (zI n), .int (zI x), .int (zI y), .int (zI dx), .int (zI dy)] : List Value).toArray below meth c 8 D κ a A 0 0 (MQ below (z_Qp D κ a A (fun z σ' => z = s_line V q n x y dx dy ∧ zMup σ σ' (z_if z V (u_line V q n x y dx dy)))) ([.ref (a 80), .int (zI q), .int (zI n), .int (zI x), .int (zI y), .int (zI dx), .int (zI dy)] : List Value).toArray s 0 0 A) σ1 [some (.ref (a 80)), some (.int (zI q)), some (.int (zI n)), some (.int (zI x)), some (.int (zI y)), some (.int (zI dx)), some (.int (zI dy)), some (.int (zI k))] 60 [] := by
            intro fu
            induction fu with
            | zero =>
              intro k σ1 hn h0 h1 hU h80 hJ
              omega
            | succ fu ih =>
              intro k σ1 hn h0 h1 hU h80 hJ
              refine r_iload7 X dX6_line_60 ?_
              refine r_iload2 X dX6_line_62 ?_
              refine r_icmp_ge (tgt := 95) X dX6_line_63 ⟨⟨by omega, by omega⟩, by omega, by omega⟩ (fun h63 => ?_) (fun h63 => ?_)
              · refine r_aload0 X dX6_line_95 ?_
                refine r_iload1 X dX6_line_96 ?_
                refine r_callVp (n := 1) X (c_X6_comes l X.2.2.1 _ _ (n) V (sx_line x dx) (sx_line y dy) hV hU.1 ⟨by omega, by omega⟩ (by rw [h80]; omega) hcn (fun j j0 j1 => hJ j j0 (by omega)) hsr) dX6_line_97 tw_658 tw_660 tw_19 tw_46 tw_661 z_c80 (by decide) rfl rfl (Nat.le_of_ble_eq_true rfl) ⟨by decide, by decide⟩ (by decide +kernel) rfl (fun z2 σ2 h2 => ?_)
                exact r_iretp X M dX6_line_100 ⟨by unfold s_line; rw [if_pos (by omega)]; exact h2.1, hU.trans h2.2⟩
              · have m1 := z_mul_b (a := k) (b := dx) (A := 7) (B := 10) (by omega) (by omega) (by omega) (by omega)
                have m2 := z_mul_b (a := k) (b := dy) (A := 7) (B := 10) (by omega) (by omega) (by omega) (by omega)
                have hst : x + k * dx = sx_line x dx k ∧ y + k * dy = sx_line y dy k := ⟨rfl, rfl⟩
                refine r_aload0 X dX6_line_66 ?_
                refine r_iload3 X dX6_line_67 ?_
                refine r_i2l X dX6_line_68 ⟨by omega, by omega⟩ ?_
                refine r_iload7 X dX6_line_69 ?_
                refine r_iload5 X dX6_line_71 ?_
                refine r_imul X dX6_line_73 ?_
                refine r_i2l X dX6_line_74 ⟨by omega, by omega⟩ ?_
                refine r_ladd X dX6_line_75 ?_
                refine r_iload4 X dX6_line_76 ?_
                refine r_i2l X dX6_line_78 ⟨by omega, by omega⟩ ?_
                refine r_iload7 X dX6_line_79 ?_
                refine r_iload6 X dX6_line_81 ?_
                refine r_imul X dX6_line_83 ?_
                refine r_i2l X dX6_line_84 ⟨by omega, by omega⟩ ?_
                refine r_ladd X dX6_line_85 ?_
                refine r_callVv (n := 2) X (c_X6_lay l X.2.2.1 _ _ _ ⟨by omega, by omega⟩) dX6_line_86 tw_654 tw_656 tw_18 tw_46 tw_657 z_c80 (by decide) rfl rfl (Nat.le_of_ble_eq_true rfl) ⟨by decide, by decide⟩ (by decide +kernel) rfl ?_
                refine r_iinc7 X dX6_line_89 ?_
                refine r_goto (tgt := 60) X dX6_line_92 (by decide) ?_
                exact ih (k + 1) _ (by omega) (by omega) (by omega) (((hU.us _ _ (by decide)).us _ _ (by decide)).u80 _ (by decide)) (by rw [z_up_s, h80]) (lay_J h80 hJ hst)
          exact L 17 0 _ (by omega) (by omega) (by omega) ((zMup.refl hM).u80 0 (by decide)) z_up_s (fun j _ _ => by omega)
        · refine r_iconst X dX6_line_50 ?_
          exact r_iretp X M dX6_line_51 ⟨by unfold s_line; rw [if_neg (by omega)], by rw [zIf_n (by omega)]; exact zMup.refl hM⟩

set_option maxRecDepth 100000 in
set_option maxHeartbeats 4000000 in
theorem c_X6_block (l : Launch) {D : va_G} {κ : Nat → ClassId} {a : Nat → Nat} {A : Nat → Prop} (hA : z_aD a A) (σ : zSt) (q x y w h g : Int) (hq : z_in q) (hx : z_in x) (hy : z_in y) (hw : z_in w) (hh : z_in h) (hg : z_in g) (V : zV) (hV : v_ok V) (hM : zModel σ V) : z_Tp l D κ a A yX6_block cX6_block 8 (some .int) 3 [.ref (a 80), .int (zI q), .int (zI x), .int (zI y), .int (zI w), .int (zI h), .int (zI g)] σ (fun z σ' => z = s_block V q x y w h g ∧ zMup σ σ' (z_if z V (u_block V q x y w h g))) := by
  refine z_Tp_of (cc := cX6_block) (maxL := 8) (ret := (some .int)) (own := RX6) (lv0 := [some (.ref (a 80)), some (.int (zI q)), some (.int (zI x)), some (.int (zI y)), some (.int (zI w)), some (.int (zI h)), some (.int (zI g)), none]) hA (by decide) rfl (Nat.le_of_ble_eq_true rfl) rfl ?_
  intro p e s mm below meth c X M
  obtain ⟨⟨hv0, hv1, hv2, hv3, hv4, hv5⟩, hvm, hvb, hvk, hvc, hvd⟩ := id hV
  have e0 := hM.1 0 (by omega) (by omega)
  have e1 := hM.1 1 (by omega) (by omega)
  refine r_aload0 X dX6_block_0 ?_
  refine r_iload1 X dX6_block_1 ?_
  refine r_callVi (n := 1) X (c_X6_isPicture l X.2.2.1 _ _ ⟨by omega, by omega⟩ ⟨by omega, by omega⟩) dX6_block_2 tw_643 tw_645 tw_17 tw_46 tw_646 z_c80 (by decide) rfl rfl (Nat.le_of_ble_eq_true rfl) ⟨by decide, by decide⟩ (by decide +kernel) rfl ?_
  refine r_if_eqB (tgt := 47) X dX6_block_5 (fun h5 => ?_) (fun h5 => ?_)
  · refine r_iconst X dX6_block_47 ?_
    exact r_iretp X M dX6_block_48 ⟨by unfold s_block; rw [if_neg (by omega)], by rw [zIf_n (by omega)]; exact zMup.refl hM⟩
  · refine r_iload4 X dX6_block_8 ?_
    refine r_i2l X dX6_block_10 ⟨by omega, by omega⟩ ?_
    refine r_lconst X dX6_block_11 1 (by decide +kernel) ?_
    refine r_ldc2 X dX6_block_12 4 (by decide +kernel) tw_618 ?_
    refine r_callSi (n := 3) X (c_X6_in l X.2.2.1 _ _ _ _ ⟨by omega, by omega⟩ ⟨by omega, by omega⟩ ⟨by omega, by omega⟩) dX6_block_15 tw_619 tw_620 tw_46 tw_621 rfl (Nat.le_of_ble_eq_true rfl) ⟨by decide, by decide⟩ (by decide +kernel) rfl ?_
    refine r_if_eqB (tgt := 47) X dX6_block_18 (fun h18 => ?_) (fun h18 => ?_)
    · refine r_iconst X dX6_block_47 ?_
      exact r_iretp X M dX6_block_48 ⟨by unfold s_block; rw [if_neg (by omega)], by rw [zIf_n (by omega)]; exact zMup.refl hM⟩
    · refine r_iload5 X dX6_block_21 ?_
      refine r_i2l X dX6_block_23 ⟨by omega, by omega⟩ ?_
      refine r_lconst X dX6_block_24 1 (by decide +kernel) ?_
      refine r_ldc2 X dX6_block_25 4 (by decide +kernel) tw_618 ?_
      refine r_callSi (n := 3) X (c_X6_in l X.2.2.1 _ _ _ _ ⟨by omega, by omega⟩ ⟨by omega, by omega⟩ ⟨by omega, by omega⟩) dX6_block_28 tw_619 tw_620 tw_46 tw_621 rfl (Nat.le_of_ble_eq_true rfl) ⟨by decide, by decide⟩ (by decide +kernel) rfl ?_
      refine r_if_eqB (tgt := 47) X dX6_block_31 (fun h31 => ?_) (fun h31 => ?_)
      · refine r_iconst X dX6_block_47 ?_
        exact r_iretp X M dX6_block_48 ⟨by unfold s_block; rw [if_neg (by omega)], by rw [zIf_n (by omega)]; exact zMup.refl hM⟩
      · refine r_iload6 X dX6_block_34 ?_
        refine r_i2l X dX6_block_36 ⟨by omega, by omega⟩ ?_
        refine r_lconst X dX6_block_37 1 (by decide +kernel) ?_
        refine r_ldc2 X dX6_block_38 5 (by decide +kernel) tw_675 ?_
        refine r_callSi (n := 3) X (c_X6_in l X.2.2.1 _ _ _ _ ⟨by omega, by omega⟩ ⟨by omega, by omega⟩ ⟨by omega, by omega⟩) dX6_block_41 tw_619 tw_620 tw_46 tw_621 rfl (Nat.le_of_ble_eq_true rfl) ⟨by decide, by decide⟩ (by decide +kernel) rfl ?_
        refine r_if_neB (tgt := 49) X dX6_block_44 (fun h44 => ?_) (fun h44 => ?_)
        · refine r_aload0 X dX6_block_49 ?_
          refine r_iconst X dX6_block_50 ?_
          refine r_put (ty := .int) X 8 8 dX6_block_51 z_c80 in_X6 tw_566 tyX6 tyX6_ok nmX6 (by decide) rfl (by decide) rfl (by decide +kernel) rfl rfl (fun _ _ => rfl) (Nat.le_of_ble_eq_true rfl) ?_
          refine r_iconst X dX6_block_54 ?_
          refine r_istore7 X dX6_block_55 ?_
          have hwh := z_mul_b (a := w) (b := h) (A := 4) (B := 4) (by omega) (by omega) (by omega) (by omega)
          have hwp : 1 ≤ w * h := by
            have := Int.mul_pos (show 0 < w by omega) (show 0 < h by omega)
            omega
          have hcn : 1 ≤ w * h ∧ w * h ≤ 16 := by omega
          have hdv : ∀ j : Int, 0 ≤ j → j < w * h → (0 ≤ j % w ∧ j % w < w) ∧ 0 ≤ j / w ∧ j / w < h := fun j j0 j1 => ⟨⟨Int.emod_nonneg _ (by omega), Int.emod_lt_of_pos _ (by omega)⟩, Int.ediv_nonneg j0 (by omega), Int.ediv_lt_of_lt_mul (by omega) (by rw [Int.mul_comm]; exact j1)⟩
          have hsr : ∀ j : Int, 0 ≤ j → j < w * h → (-9000000000 ≤ sx_block x w g j ∧ sx_block x w g j ≤ 9000000000) ∧ -9000000000 ≤ sy_block y w g j ∧ sy_block y w g j ≤ 9000000000 := fun j j0 j1 => by
            have d := hdv j j0 j1
            have m1 := z_mul_b (a := j % w) (b := g) (A := 4) (B := 5) (by omega) (by omega) (by omega) (by omega)
            have m2 := z_mul_b (a := j / w) (b := g) (A := 4) (B := 5) (by omega) (by omega) (by omega) (by omega)
            unfold sx_block sy_block
            omega
          have L : ∀ (fu : Nat) (k : Int) (σ1 : zSt), (w * h - k) < (fu : Int) → 0 ≤ k → k ≤ w * h → zMup σ σ1 V → σ1 80 8 = k → (∀ j : Int, 0 ≤ j → j < k → σ1 86 j = (sx_block x w g) j ∧ σ1 87 j = (sy_block y w g) j) → z_G p l e (z_rm 3) s mm ([.ref (a 80), .int (zI q), .int (zI x), .int (zI y), .int (zI w), .int (zI h), .int (zI g)] : List Value).toArray below meth c 8 D κ a A 0 0 (MQ below (z_Qp D κ a A (fun z σ' => z = s_block V q x y w h g ∧ zMup σ σ' (z_if z V (u_block V q x y w h g)))) ([.ref (a 80), .int (zI q), .int (zI x), .int (zI y), .int (zI w), .int (zI h), .int (zI g)] : List Value).toArray s 0 0 A) σ1 [some (.ref (a 80)), some (.int (zI q)), some (.int (zI x)), some (.int (zI y)), some (.int (zI w)), some (.int (zI h)), some (.int (zI g)), some (.int (zI k))] 57 [] := by
            intro fu
            induction fu with
            | zero =>
              intro k σ1 hn h0 h1 hU h80 hJ
              omega
            | succ fu ih =>
              intro k σ1 hn h0 h1 hU h80 hJ
              refine r_iload7 X dX6_block_57 ?_
              refine r_iload4 X dX6_block_59 ?_
              refine r_iload5 X dX6_block_61 ?_
              refine r_imul X dX6_block_63 ?_
              refine r_icmp_ge (tgt := 101) X dX6_block_64 ⟨⟨by omega, by omega⟩, by omega, by omega⟩ (fun h64 => ?_) (fun h64 => ?_)
              · refine r_aload0 X dX6_block_101 ?_
                refine r_iload1 X dX6_block_102 ?_
                refine r_callVp (n := 1) X (c_X6_comes l X.2.2.1 _ _ (w * h) V (sx_block x w g) (sy_block y w g) hV hU.1 ⟨by omega, by omega⟩ (by rw [h80]; omega) hcn (fun j j0 j1 => hJ j j0 (by omega)) hsr) dX6_block_103 tw_658 tw_660 tw_19 tw_46 tw_661 z_c80 (by decide) rfl rfl (Nat.le_of_ble_eq_true rfl) ⟨by decide, by decide⟩ (by decide +kernel) rfl (fun z2 σ2 h2 => ?_)
                exact r_iretp X M dX6_block_106 ⟨by unfold s_block; rw [if_pos (by omega)]; exact h2.1, hU.trans h2.2⟩
              · have d := hdv k (by omega) (by omega)
                have m1 := z_mul_b (a := k % w) (b := g) (A := 4) (B := 5) (by omega) (by omega) (by omega) (by omega)
                have m2 := z_mul_b (a := k / w) (b := g) (A := 4) (B := 5) (by omega) (by omega) (by omega) (by omega)
                have hst : x + k % w * g = sx_block x w g k ∧ y + k / w * g = sy_block y w g k := ⟨rfl, rfl⟩
                refine r_aload0 X dX6_block_67 ?_
                refine r_iload2 X dX6_block_68 ?_
                refine r_i2l X dX6_block_69 ⟨by omega, by omega⟩ ?_
                refine r_iload7 X dX6_block_70 ?_
                refine r_iload4 X dX6_block_72 ?_
                refine r_irem X dX6_block_74 ⟨⟨by omega, by omega⟩, by omega, by omega⟩ ?_
                refine r_iload6 X dX6_block_75 ?_
                refine r_imul X dX6_block_77 ?_
                refine r_i2l X dX6_block_78 ⟨by omega, by omega⟩ ?_
                refine r_ladd X dX6_block_79 ?_
                refine r_iload3 X dX6_block_80 ?_
                refine r_i2l X dX6_block_81 ⟨by omega, by omega⟩ ?_
                refine r_iload7 X dX6_block_82 ?_
                refine r_iload4 X dX6_block_84 ?_
                refine r_idiv X dX6_block_86 ⟨⟨by omega, by omega⟩, by omega, by omega⟩ ?_
                refine r_iload6 X dX6_block_87 ?_
                refine r_imul X dX6_block_89 ?_
                refine r_i2l X dX6_block_90 ⟨by omega, by omega⟩ ?_
                refine r_ladd X dX6_block_91 ?_
                refine r_callVv (n := 2) X (c_X6_lay l X.2.2.1 _ _ _ ⟨by omega, by omega⟩) dX6_block_92 tw_654 tw_656 tw_18 tw_46 tw_657 z_c80 (by decide) rfl rfl (Nat.le_of_ble_eq_true rfl) ⟨by decide, by decide⟩ (by decide +kernel) rfl ?_
                refine r_iinc7 X dX6_block_95 ?_
                refine r_goto (tgt := 57) X dX6_block_98 (by decide) ?_
                exact ih (k + 1) _ (by omega) (by omega) (by omega) (((hU.us _ _ (by decide)).us _ _ (by decide)).u80 _ (by decide)) (by rw [z_up_s, h80]) (lay_J h80 hJ hst)
          exact L 17 0 _ (by omega) (by omega) (by omega) ((zMup.refl hM).u80 0 (by decide)) z_up_s (fun j _ _ => by omega)
        · refine r_iconst X dX6_block_47 ?_
          exact r_iretp X M dX6_block_48 ⟨by unfold s_block; rw [if_neg (by omega)], by rw [zIf_n (by omega)]; exact zMup.refl hM⟩

set_option maxRecDepth 100000 in
set_option maxHeartbeats 4000000 in
theorem c_X6_corner (l : Launch) {D : va_G} {κ : Nat → ClassId} {a : Nat → Nat} {A : Nat → Prop} (hA : z_aD a A) (σ : zSt) (q x y n g : Int) (hq : z_in q) (hx : z_in x) (hy : z_in y) (hn : z_in n) (hg : z_in g) (V : zV) (hV : v_ok V) (hM : zModel σ V) : z_Tp l D κ a A yX6_corner cX6_corner 7 (some .int) 3 [.ref (a 80), .int (zI q), .int (zI x), .int (zI y), .int (zI n), .int (zI g)] σ (fun z σ' => z = s_corner V q x y n g ∧ zMup σ σ' (z_if z V (u_corner V q x y n g))) := by
  refine z_Tp_of (cc := cX6_corner) (maxL := 7) (ret := (some .int)) (own := RX6) (lv0 := [some (.ref (a 80)), some (.int (zI q)), some (.int (zI x)), some (.int (zI y)), some (.int (zI n)), some (.int (zI g)), none]) hA (by decide) rfl (Nat.le_of_ble_eq_true rfl) rfl ?_
  intro p e s mm below meth c X M
  obtain ⟨⟨hv0, hv1, hv2, hv3, hv4, hv5⟩, hvm, hvb, hvk, hvc, hvd⟩ := id hV
  have e0 := hM.1 0 (by omega) (by omega)
  have e1 := hM.1 1 (by omega) (by omega)
  refine r_aload0 X dX6_corner_0 ?_
  refine r_iload1 X dX6_corner_1 ?_
  refine r_callVi (n := 1) X (c_X6_isPicture l X.2.2.1 _ _ ⟨by omega, by omega⟩ ⟨by omega, by omega⟩) dX6_corner_2 tw_643 tw_645 tw_17 tw_46 tw_646 z_c80 (by decide) rfl rfl (Nat.le_of_ble_eq_true rfl) ⟨by decide, by decide⟩ (by decide +kernel) rfl ?_
  refine r_if_eqB (tgt := 34) X dX6_corner_5 (fun h5 => ?_) (fun h5 => ?_)
  · refine r_iconst X dX6_corner_34 ?_
    exact r_iretp X M dX6_corner_35 ⟨by unfold s_corner; rw [if_neg (by omega)], by rw [zIf_n (by omega)]; exact zMup.refl hM⟩
  · refine r_iload4 X dX6_corner_8 ?_
    refine r_i2l X dX6_corner_10 ⟨by omega, by omega⟩ ?_
    refine r_lconst X dX6_corner_11 1 (by decide +kernel) ?_
    refine r_ldc2 X dX6_corner_12 4 (by decide +kernel) tw_618 ?_
    refine r_callSi (n := 3) X (c_X6_in l X.2.2.1 _ _ _ _ ⟨by omega, by omega⟩ ⟨by omega, by omega⟩ ⟨by omega, by omega⟩) dX6_corner_15 tw_619 tw_620 tw_46 tw_621 rfl (Nat.le_of_ble_eq_true rfl) ⟨by decide, by decide⟩ (by decide +kernel) rfl ?_
    refine r_if_eqB (tgt := 34) X dX6_corner_18 (fun h18 => ?_) (fun h18 => ?_)
    · refine r_iconst X dX6_corner_34 ?_
      exact r_iretp X M dX6_corner_35 ⟨by unfold s_corner; rw [if_neg (by omega)], by rw [zIf_n (by omega)]; exact zMup.refl hM⟩
    · refine r_iload5 X dX6_corner_21 ?_
      refine r_i2l X dX6_corner_23 ⟨by omega, by omega⟩ ?_
      refine r_lconst X dX6_corner_24 1 (by decide +kernel) ?_
      refine r_ldc2 X dX6_corner_25 5 (by decide +kernel) tw_675 ?_
      refine r_callSi (n := 3) X (c_X6_in l X.2.2.1 _ _ _ _ ⟨by omega, by omega⟩ ⟨by omega, by omega⟩ ⟨by omega, by omega⟩) dX6_corner_28 tw_619 tw_620 tw_46 tw_621 rfl (Nat.le_of_ble_eq_true rfl) ⟨by decide, by decide⟩ (by decide +kernel) rfl ?_
      refine r_if_neB (tgt := 36) X dX6_corner_31 (fun h31 => ?_) (fun h31 => ?_)
      · refine r_aload0 X dX6_corner_36 ?_
        refine r_iconst X dX6_corner_37 ?_
        refine r_put (ty := .int) X 8 8 dX6_corner_38 z_c80 in_X6 tw_566 tyX6 tyX6_ok nmX6 (by decide) rfl (by decide) rfl (by decide +kernel) rfl rfl (fun _ _ => rfl) (Nat.le_of_ble_eq_true rfl) ?_
        refine r_iconst X dX6_corner_41 ?_
        refine r_istore6 X dX6_corner_42 ?_
        have hcn : 1 ≤ 2 * n - 1 ∧ 2 * n - 1 ≤ 16 := by omega
        have hm1 : ∀ j : Int, 0 ≤ j → j < 2 * n - 1 → (-20 ≤ (if j < n then j else n - 1) * g ∧ (if j < n then j else n - 1) * g ≤ 20) ∧ -20 ≤ (if j < n then 0 else j - n + 1) * g ∧ (if j < n then 0 else j - n + 1) * g ≤ 20 := fun j j0 j1 => by
          have m1 := z_mul_b (a := if j < n then j else n - 1) (b := g) (A := 4) (B := 5) (by split <;> omega) (by omega) (by omega) (by omega)
          have m2 := z_mul_b (a := if j < n then 0 else j - n + 1) (b := g) (A := 4) (B := 5) (by split <;> omega) (by omega) (by omega) (by omega)
          omega
        have hsr : ∀ j : Int, 0 ≤ j → j < 2 * n - 1 → (-9000000000 ≤ sx_corner x n g j ∧ sx_corner x n g j ≤ 9000000000) ∧ -9000000000 ≤ sy_corner y n g j ∧ sy_corner y n g j ≤ 9000000000 := fun j j0 j1 => by
          have d := hm1 j j0 j1
          unfold sx_corner sy_corner
          omega
        have L : ∀ (fu : Nat) (k : Int) (σ1 : zSt), ((2 * n - 1) - k) < (fu : Int) → 0 ≤ k → k ≤ (2 * n - 1) → zMup σ σ1 V → σ1 80 8 = k → (∀ j : Int, 0 ≤ j → j < k → σ1 86 j = (sx_corner x n g) j ∧ σ1 87 j = (sy_corner y n g) j) → z_G p l e (z_rm 3) s mm ([.ref (a 80), .int (zI q), .int (zI x), .int (zI y), .int (zI n), .int (zI g)] : List Value).toArray below meth c 7 D κ a A 0 0 (MQ below (z_Qp D κ a A (fun z σ' => z = s_corner V q x y n g ∧ zMup σ σ' (z_if z V (u_corner V q x y n g)))) ([.ref (a 80), .int (zI q), .int (zI x), .int (zI y), .int (zI n), .int (zI g)] : List Value).toArray s 0 0 A) σ1 [some (.ref (a 80)), some (.int (zI q)), some (.int (zI x)), some (.int (zI y)), some (.int (zI n)), some (.int (zI g)), some (.int (zI k))] 44 [] := by
          intro fu
          induction fu with
          | zero =>
            intro k σ1 hn h0 h1 hU h80 hJ
            omega
          | succ fu ih =>
            intro k σ1 hn h0 h1 hU h80 hJ
            refine r_iload6 X dX6_corner_44 ?_
            refine r_iconst X dX6_corner_46 ?_
            refine r_iload4 X dX6_corner_47 ?_
            refine r_imul X dX6_corner_49 ?_
            refine r_iconst X dX6_corner_50 ?_
            refine r_isub X dX6_corner_51 ?_
            refine r_icmp_ge (tgt := 113) X dX6_corner_52 ⟨⟨by omega, by omega⟩, by omega, by omega⟩ (fun h52 => ?_) (fun h52 => ?_)
            · refine r_aload0 X dX6_corner_113 ?_
              refine r_iload1 X dX6_corner_114 ?_
              refine r_callVp (n := 1) X (c_X6_comes l X.2.2.1 _ _ ((2 * n - 1)) V (sx_corner x n g) (sy_corner y n g) hV hU.1 ⟨by omega, by omega⟩ (by rw [h80]; omega) hcn (fun j j0 j1 => hJ j j0 (by omega)) hsr) dX6_corner_115 tw_658 tw_660 tw_19 tw_46 tw_661 z_c80 (by decide) rfl rfl (Nat.le_of_ble_eq_true rfl) ⟨by decide, by decide⟩ (by decide +kernel) rfl (fun z2 σ2 h2 => ?_)
              exact r_iretp X M dX6_corner_118 ⟨by unfold s_corner; rw [if_pos (by omega)]; exact h2.1, hU.trans h2.2⟩
            · have d := hm1 k (by omega) (by omega)
              refine r_aload0 X dX6_corner_55 ?_
              refine r_iload2 X dX6_corner_56 ?_
              refine r_i2l X dX6_corner_57 ⟨by omega, by omega⟩ ?_
              refine r_iload6 X dX6_corner_58 ?_
              refine r_iload4 X dX6_corner_60 ?_
              refine r_icmp_ge (tgt := 70) X dX6_corner_62 ⟨⟨by omega, by omega⟩, by omega, by omega⟩ (fun h62 => ?_) (fun h62 => ?_)
              · refine r_iload4 X dX6_corner_70 ?_
                refine r_iconst X dX6_corner_72 ?_
                refine r_isub X dX6_corner_73 ?_
                refine r_eqi (y := if k < n then k else n - 1) (by split <;> omega) ?_
                refine r_iload5 X dX6_corner_74 ?_
                refine r_imul X dX6_corner_76 ?_
                refine r_i2l X dX6_corner_77 ⟨by omega, by omega⟩ ?_
                refine r_ladd X dX6_corner_78 ?_
                refine r_iload3 X dX6_corner_79 ?_
                refine r_i2l X dX6_corner_80 ⟨by omega, by omega⟩ ?_
                refine r_iload6 X dX6_corner_81 ?_
                refine r_iload4 X dX6_corner_83 ?_
                refine r_icmp_ge (tgt := 92) X dX6_corner_85 ⟨⟨by omega, by omega⟩, by omega, by omega⟩ (fun h85 => ?_) (fun h85 => ?_)
                · refine r_iload6 X dX6_corner_92 ?_
                  refine r_iload4 X dX6_corner_94 ?_
                  refine r_isub X dX6_corner_96 ?_
                  refine r_iconst X dX6_corner_97 ?_
                  refine r_iadd X dX6_corner_98 ?_
                  refine r_eqi (y := if k < n then 0 else k - n + 1) (by split <;> omega) ?_
                  refine r_iload5 X dX6_corner_99 ?_
                  refine r_imul X dX6_corner_101 ?_
                  refine r_i2l X dX6_corner_102 ⟨by omega, by omega⟩ ?_
                  refine r_ladd X dX6_corner_103 ?_
                  have hst : x + (if k < n then k else n - 1) * g = sx_corner x n g k ∧ y + (if k < n then 0 else k - n + 1) * g = sy_corner y n g k := ⟨rfl, rfl⟩
                  refine r_callVv (n := 2) X (c_X6_lay l X.2.2.1 _ _ _ ⟨by omega, by omega⟩) dX6_corner_104 tw_654 tw_656 tw_18 tw_46 tw_657 z_c80 (by decide) rfl rfl (Nat.le_of_ble_eq_true rfl) ⟨by decide, by decide⟩ (by decide +kernel) rfl ?_
                  refine r_iinc6 X dX6_corner_107 ?_
                  refine r_goto (tgt := 44) X dX6_corner_110 (by decide) ?_
                  exact ih (k + 1) _ (by omega) (by omega) (by omega) (((hU.us _ _ (by decide)).us _ _ (by decide)).u80 _ (by decide)) (by rw [z_up_s, h80]) (lay_J h80 hJ hst)
                · refine r_iconst X dX6_corner_88 ?_
                  refine r_goto (tgt := 99) X dX6_corner_89 (by decide) ?_
                  refine r_eqi (y := if k < n then 0 else k - n + 1) (by split <;> omega) ?_
                  refine r_iload5 X dX6_corner_99 ?_
                  refine r_imul X dX6_corner_101 ?_
                  refine r_i2l X dX6_corner_102 ⟨by omega, by omega⟩ ?_
                  refine r_ladd X dX6_corner_103 ?_
                  have hst : x + (if k < n then k else n - 1) * g = sx_corner x n g k ∧ y + (if k < n then 0 else k - n + 1) * g = sy_corner y n g k := ⟨rfl, rfl⟩
                  refine r_callVv (n := 2) X (c_X6_lay l X.2.2.1 _ _ _ ⟨by omega, by omega⟩) dX6_corner_104 tw_654 tw_656 tw_18 tw_46 tw_657 z_c80 (by decide) rfl rfl (Nat.le_of_ble_eq_true rfl) ⟨by decide, by decide⟩ (by decide +kernel) rfl ?_
                  refine r_iinc6 X dX6_corner_107 ?_
                  refine r_goto (tgt := 44) X dX6_corner_110 (by decide) ?_
                  exact ih (k + 1) _ (by omega) (by omega) (by omega) (((hU.us _ _ (by decide)).us _ _ (by decide)).u80 _ (by decide)) (by rw [z_up_s, h80]) (lay_J h80 hJ hst)
              · refine r_iload6 X dX6_corner_65 ?_
                refine r_goto (tgt := 74) X dX6_corner_67 (by decide) ?_
                refine r_eqi (y := if k < n then k else n - 1) (by split <;> omega) ?_
                refine r_iload5 X dX6_corner_74 ?_
                refine r_imul X dX6_corner_76 ?_
                refine r_i2l X dX6_corner_77 ⟨by omega, by omega⟩ ?_
                refine r_ladd X dX6_corner_78 ?_
                refine r_iload3 X dX6_corner_79 ?_
                refine r_i2l X dX6_corner_80 ⟨by omega, by omega⟩ ?_
                refine r_iload6 X dX6_corner_81 ?_
                refine r_iload4 X dX6_corner_83 ?_
                refine r_icmp_ge (tgt := 92) X dX6_corner_85 ⟨⟨by omega, by omega⟩, by omega, by omega⟩ (fun h85 => ?_) (fun h85 => ?_)
                · refine r_iload6 X dX6_corner_92 ?_
                  refine r_iload4 X dX6_corner_94 ?_
                  refine r_isub X dX6_corner_96 ?_
                  refine r_iconst X dX6_corner_97 ?_
                  refine r_iadd X dX6_corner_98 ?_
                  refine r_eqi (y := if k < n then 0 else k - n + 1) (by split <;> omega) ?_
                  refine r_iload5 X dX6_corner_99 ?_
                  refine r_imul X dX6_corner_101 ?_
                  refine r_i2l X dX6_corner_102 ⟨by omega, by omega⟩ ?_
                  refine r_ladd X dX6_corner_103 ?_
                  have hst : x + (if k < n then k else n - 1) * g = sx_corner x n g k ∧ y + (if k < n then 0 else k - n + 1) * g = sy_corner y n g k := ⟨rfl, rfl⟩
                  refine r_callVv (n := 2) X (c_X6_lay l X.2.2.1 _ _ _ ⟨by omega, by omega⟩) dX6_corner_104 tw_654 tw_656 tw_18 tw_46 tw_657 z_c80 (by decide) rfl rfl (Nat.le_of_ble_eq_true rfl) ⟨by decide, by decide⟩ (by decide +kernel) rfl ?_
                  refine r_iinc6 X dX6_corner_107 ?_
                  refine r_goto (tgt := 44) X dX6_corner_110 (by decide) ?_
                  exact ih (k + 1) _ (by omega) (by omega) (by omega) (((hU.us _ _ (by decide)).us _ _ (by decide)).u80 _ (by decide)) (by rw [z_up_s, h80]) (lay_J h80 hJ hst)
                · refine r_iconst X dX6_corner_88 ?_
                  refine r_goto (tgt := 99) X dX6_corner_89 (by decide) ?_
                  refine r_eqi (y := if k < n then 0 else k - n + 1) (by split <;> omega) ?_
                  refine r_iload5 X dX6_corner_99 ?_
                  refine r_imul X dX6_corner_101 ?_
                  refine r_i2l X dX6_corner_102 ⟨by omega, by omega⟩ ?_
                  refine r_ladd X dX6_corner_103 ?_
                  have hst : x + (if k < n then k else n - 1) * g = sx_corner x n g k ∧ y + (if k < n then 0 else k - n + 1) * g = sy_corner y n g k := ⟨rfl, rfl⟩
                  refine r_callVv (n := 2) X (c_X6_lay l X.2.2.1 _ _ _ ⟨by omega, by omega⟩) dX6_corner_104 tw_654 tw_656 tw_18 tw_46 tw_657 z_c80 (by decide) rfl rfl (Nat.le_of_ble_eq_true rfl) ⟨by decide, by decide⟩ (by decide +kernel) rfl ?_
                  refine r_iinc6 X dX6_corner_107 ?_
                  refine r_goto (tgt := 44) X dX6_corner_110 (by decide) ?_
                  exact ih (k + 1) _ (by omega) (by omega) (by omega) (((hU.us _ _ (by decide)).us _ _ (by decide)).u80 _ (by decide)) (by rw [z_up_s, h80]) (lay_J h80 hJ hst)
        exact L 17 0 _ (by omega) (by omega) (by omega) ((zMup.refl hM).u80 0 (by decide)) z_up_s (fun j _ _ => by omega)
      · refine r_iconst X dX6_corner_34 ?_
        exact r_iretp X M dX6_corner_35 ⟨by unfold s_corner; rw [if_neg (by omega)], by rw [zIf_n (by omega)]; exact zMup.refl hM⟩

