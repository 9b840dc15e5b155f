theorem z_all_s {P : Int → Prop} {i : Int} (h0 : 0 ≤ i) : (∀ j : Int, 0 ≤ j → j < i + 1 → P j) ↔ (∀ j : Int, 0 ≤ j → j < i → P j) ∧ P i := by
  constructor
  · intro h
    exact ⟨fun j a b => h j a (by omega), h i h0 (by omega)⟩
  · intro h j a b
    by_cases e : j = i
    · rw [e]; exact h.2
    · exact h.1 j a (by omega)
def p_free (fX fY sx sy : Int → Int) (nd k : Int) : Prop := (((0 ≤ sx k ∧ sx k ≤ 40) ∧ 0 ≤ sy k ∧ sy k ≤ 40) ∧ ∀ i : Int, 0 ≤ i → i < k → ¬ (sx i = sx k ∧ sy i = sy k)) ∧ ∀ d : Int, 0 ≤ d → d < nd → ¬ (fX d = sx k ∧ fY d = sy k)
def p_ok (fX fY sx sy : Int → Int) (nd n : Int) : Prop := ∀ k : Int, 0 ≤ k → k < n → p_free fX fY sx sy nd k

set_option maxRecDepth 100000 in
set_option maxHeartbeats 4000000 in
theorem c_X6_lay (l : Launch) {D : va_G} {κ : Nat → ClassId} {a : Nat → Nat} {A : Nat → Prop} (hA : z_aD a A) (σ : zSt) (x y : Int) (h : 0 ≤ σ 80 8 ∧ σ 80 8 < 16) : z_Tv l D κ a A yX6_lay cX6_lay 5 none 0 [.ref (a 80), .long (zL x), .long (zL y)] σ (z_up (z_up (z_up σ 86 (σ 80 8) x) 87 (σ 80 8) y) 80 8 (σ 80 8 + 1)) := by
  refine z_Tv_of (cc := cX6_lay) (maxL := 5) (ret := none) (own := RX6) (lv0 := [some (.ref (a 80)), some (.long (zL x)), none, some (.long (zL y)), none]) hA (by decide) rfl (Nat.le_of_ble_eq_true rfl) rfl ?_
  intro p e s mm below meth c X M
  refine r_aload0 X dX6_lay_0 ?_
  refine r_get X 6 dX6_lay_1 z_c80 in_X6 tw_564 (by decide) rfl rfl (by decide) ?_
  refine r_aload0 X dX6_lay_4 ?_
  refine r_get X 8 dX6_lay_5 z_c80 in_X6 tw_566 (by decide) rfl rfl (by decide) ?_
  refine r_lload1 X dX6_lay_8 ?_
  refine r_last X dX6_lay_9 z_c86 (by decide) ⟨by omega, by omega⟩ ?_
  refine r_aload0 X dX6_lay_10 ?_
  refine r_get X 7 dX6_lay_11 z_c80 in_X6 tw_565 (by decide) rfl rfl (by decide) ?_
  refine r_aload0 X dX6_lay_14 ?_
  refine r_get X 8 dX6_lay_15 z_c80 in_X6 tw_566 (by decide) rfl rfl (by decide) ?_
  refine r_eqi (y := σ 80 8) (by repeat rw [z_up_c (by decide)]) ?_
  refine r_lload3 X dX6_lay_18 ?_
  refine r_last X dX6_lay_19 z_c87 (by decide) ⟨by omega, by omega⟩ ?_
  refine r_aload0 X dX6_lay_20 ?_
  refine r_dup X dX6_lay_21 rfl ?_
  refine r_get X 8 dX6_lay_22 z_c80 in_X6 tw_566 (by decide) rfl rfl (by decide) ?_
  refine r_eqi (y := σ 80 8) (by repeat rw [z_up_c (by decide)]) ?_
  refine r_iconst X dX6_lay_25 ?_
  refine r_iadd X dX6_lay_26 ?_
  refine r_put (ty := .int) X 8 8 dX6_lay_27 z_c80 in_X6 tw_566 tyX6 tyX6_ok nmX6 (by decide) rfl (by decide) rfl (by decide +kernel) rfl rfl (fun _ _ => rfl) (Nat.le_of_ble_eq_true rfl) ?_
  exact r_vret X M dX6_lay_30 rfl

set_option maxRecDepth 100000 in
set_option maxHeartbeats 4000000 in
theorem c_X6_isFree (l : Launch) {D : va_G} {κ : Nat → ClassId} {a : Nat → Nat} {A : Nat → Prop} (hA : z_aD a A) (σ : zSt) (q k : Int) (hq : 0 ≤ q ∧ q < 5) (hk : 0 ≤ k ∧ k < 16) (hnd : 0 ≤ σ 83 (2 * q + 1) ∧ σ 83 (2 * q + 1) ≤ 7) (hx : ∀ j : Int, 0 ≤ j → j ≤ k → (-9000000000 ≤ σ 86 j ∧ σ 86 j ≤ 9000000000) ∧ -9000000000 ≤ σ 87 j ∧ σ 87 j ≤ 9000000000) (hd : ∀ j : Int, 0 ≤ j → j < 105 → 0 ≤ σ 84 j ∧ σ 84 j ≤ 40) : z_Tp l D κ a A yX6_isFree cX6_isFree 6 (some .boolean) 1 [.ref (a 80), .int (zI q), .int (zI k)] σ (fun z σ' => σ' = σ ∧ (z = 0 ∨ z = 1) ∧ (z = 1 ↔ p_free (fun d => σ 84 (3 * (7 * q + d))) (fun d => σ 84 (3 * (7 * q + d) + 1)) (σ 86) (σ 87) (σ 83 (2 * q + 1)) k)) := by
  refine z_Tp_of (cc := cX6_isFree) (maxL := 6) (ret := (some .boolean)) (own := RX6) (lv0 := [some (.ref (a 80)), some (.int (zI q)), some (.int (zI k)), none, none, none]) hA (by decide) rfl (Nat.le_of_ble_eq_true rfl) rfl ?_
  intro p e s mm below meth c X M
  have xk := hx k (by omega) (by omega)
  refine r_aload0 X dX6_isFree_0 ?_
  refine r_get X 6 dX6_isFree_1 z_c80 in_X6 tw_564 (by decide) rfl rfl (by decide) ?_
  refine r_iload2 X dX6_isFree_4 ?_
  refine r_lald X dX6_isFree_5 z_c86 (by decide) ⟨by omega, by omega⟩ ?_
  refine r_lconst X dX6_isFree_6 0 (by decide +kernel) ?_
  refine r_ldc2 X dX6_isFree_7 40 (by decide +kernel) tw_670 ?_
  refine r_callSi (n := 3) X (c_X6_in l X.2.2.1 _ _ _ _ ⟨by omega, by omega⟩ ⟨by omega, by omega⟩ ⟨by omega, by omega⟩) dX6_isFree_10 tw_619 tw_620 tw_46 tw_621 rfl (Nat.le_of_ble_eq_true rfl) ⟨by decide, by decide⟩ (by decide +kernel) rfl ?_
  refine r_if_eqB (tgt := 36) X dX6_isFree_13 (fun h13 => ?_) (fun h13 => ?_)
  · refine r_iconst X dX6_isFree_36 ?_
    refine r_istore3 X dX6_isFree_37 ?_
    refine r_iconst X dX6_isFree_38 ?_
    refine r_istore4 X dX6_isFree_39 ?_
    have L : ∀ (fu : Nat) (i f : Int), (k - i) < (fu : Int) → 0 ≤ i → i ≤ k → (f = 0 ∨ f = 1) → (f = 1 ↔ ((0 ≤ σ 86 k ∧ σ 86 k ≤ 40) ∧ 0 ≤ σ 87 k ∧ σ 87 k ≤ 40) ∧ (∀ j : Int, 0 ≤ j → j < i → ¬ (σ 86 j = σ 86 k ∧ σ 87 j = σ 87 k))) → z_G p l e (z_rm 1) s mm ([.ref (a 80), .int (zI q), .int (zI k)] : List Value).toArray below meth c 6 D κ a A 0 0 (MQ below (z_Qp D κ a A (fun z σ' => σ' = σ ∧ (z = 0 ∨ z = 1) ∧ (z = 1 ↔ p_free (fun d => σ 84 (3 * (7 * q + d))) (fun d => σ 84 (3 * (7 * q + d) + 1)) (σ 86) (σ 87) (σ 83 (2 * q + 1)) k))) ([.ref (a 80), .int (zI q), .int (zI k)] : List Value).toArray s 0 0 A) σ [some (.ref (a 80)), some (.int (zI q)), some (.int (zI k)), some (.int (zI f)), some (.int (zI i)), none] 41 [] := by
      intro fu
      induction fu with
      | zero =>
        intro i f hn h0 h1 f01 hf
        omega
      | succ fu ih =>
        intro i f hn h0 h1 f01 hf
        have xi := hx i (by omega) (by omega)
        have xk := hx k (by omega) (by omega)
        refine r_iload4 X dX6_isFree_41 ?_
        refine r_iload2 X dX6_isFree_43 ?_
        refine r_icmp_ge (tgt := 97) X dX6_isFree_44 ⟨⟨by omega, by omega⟩, by omega, by omega⟩ (fun h44 => ?_) (fun h44 => ?_)
        · refine r_iconst X dX6_isFree_97 ?_
          refine r_istore4 X dX6_isFree_98 ?_
          have L2 : ∀ (fu : Nat) (i f : Int) (o5 : Option Value), (σ 83 (2 * q + 1) - i) < (fu : Int) → 0 ≤ i → i ≤ σ 83 (2 * q + 1) → (f = 0 ∨ f = 1) → (f = 1 ↔ (((0 ≤ σ 86 k ∧ σ 86 k ≤ 40) ∧ 0 ≤ σ 87 k ∧ σ 87 k ≤ 40) ∧ (∀ j : Int, 0 ≤ j → j < k → ¬ (σ 86 j = σ 86 k ∧ σ 87 j = σ 87 k))) ∧ (∀ j : Int, 0 ≤ j → j < i → ¬ (σ 84 (3 * (7 * q + j)) = σ 86 k ∧ σ 84 (3 * (7 * q + j) + 1) = σ 87 k))) → z_G p l e (z_rm 1) s mm ([.ref (a 80), .int (zI q), .int (zI k)] : List Value).toArray below meth c 6 D κ a A 0 0 (MQ below (z_Qp D κ a A (fun z σ' => σ' = σ ∧ (z = 0 ∨ z = 1) ∧ (z = 1 ↔ p_free (fun d => σ 84 (3 * (7 * q + d))) (fun d => σ 84 (3 * (7 * q + d) + 1)) (σ 86) (σ 87) (σ 83 (2 * q + 1)) k))) ([.ref (a 80), .int (zI q), .int (zI k)] : List Value).toArray s 0 0 A) σ [some (.ref (a 80)), some (.int (zI q)), some (.int (zI k)), some (.int (zI f)), some (.int (zI i)), o5] 100 [] := by
            intro fu
            induction fu with
            | zero =>
              intro i f o5 hn h0 h1 f01 hf
              omega
            | succ fu ih =>
              intro i f o5 hn h0 h1 f01 hf
              have xk := hx k (by omega) (by omega)
              refine r_iload4 X dX6_isFree_100 ?_
              refine r_aload0 X dX6_isFree_102 ?_
              refine r_iload1 X dX6_isFree_103 ?_
              refine r_callVi (n := 1) X (c_X6_dotMany l X.2.2.1 _ _ ⟨by omega, by omega⟩) dX6_isFree_104 tw_662 tw_664 tw_20 tw_46 tw_665 z_c80 (by decide) rfl rfl (Nat.le_of_ble_eq_true rfl) ⟨by decide, by decide⟩ (by decide +kernel) rfl ?_
              refine r_icmp_ge (tgt := 175) X dX6_isFree_107 ⟨⟨by omega, by omega⟩, by omega, by omega⟩ (fun h107 => ?_) (fun h107 => ?_)
              · refine r_iload3 X dX6_isFree_175 ?_
                exact r_zretp X M dX6_isFree_176 f01 ⟨rfl, f01, hf.trans ⟨fun q => ⟨q.1, fun d d0 d1 => q.2 d d0 (by omega)⟩, fun q => ⟨q.1, fun d d0 d1 => q.2 d d0 (by omega)⟩⟩⟩
              · have xi := hd (3 * (7 * q + i)) (by omega) (by omega)
                have xj := hd (3 * (7 * q + i) + 1) (by omega) (by omega)
                refine r_iconst X dX6_isFree_110 ?_
                refine r_bipush X dX6_isFree_111 (by decide +kernel) ?_
                refine r_iload1 X dX6_isFree_113 ?_
                refine r_imul X dX6_isFree_114 ?_
                refine r_iload4 X dX6_isFree_115 ?_
                refine r_iadd X dX6_isFree_117 ?_
                refine r_imul X dX6_isFree_118 ?_
                refine r_istore5 X dX6_isFree_119 ?_
                refine r_iload3 X dX6_isFree_121 ?_
                refine r_if_eq (tgt := 167) X dX6_isFree_122 ⟨by omega, by omega⟩ (fun h122 => ?_) (fun h122 => ?_)
                · refine r_iconst X dX6_isFree_167 ?_
                  refine r_istore3 X dX6_isFree_168 ?_
                  refine r_iinc4 X dX6_isFree_169 ?_
                  refine r_goto (tgt := 100) X dX6_isFree_172 (by decide) ?_
                  exact ih (i + 1) _ _ (by omega) (by omega) (by omega) (by omega) (by rw [z_all_s h0]; first | omega | grind)
                · refine r_aload0 X dX6_isFree_125 ?_
                  refine r_get X 3 dX6_isFree_126 z_c80 in_X6 tw_561 (by decide) rfl rfl (by decide) ?_
                  refine r_iload5 X dX6_isFree_129 ?_
                  refine r_iald X dX6_isFree_131 z_c84 (by decide) ⟨by omega, by omega⟩ ?_
                  refine r_i2l X dX6_isFree_132 ⟨by omega, by omega⟩ ?_
                  refine r_aload0 X dX6_isFree_133 ?_
                  refine r_get X 6 dX6_isFree_134 z_c80 in_X6 tw_564 (by decide) rfl rfl (by decide) ?_
                  refine r_iload2 X dX6_isFree_137 ?_
                  refine r_lald X dX6_isFree_138 z_c86 (by decide) ⟨by omega, by omega⟩ ?_
                  refine r_lcmp X dX6_isFree_139 ⟨by omega, by omega⟩ ⟨by omega, by omega⟩ ?_
                  refine r_if_neC (tgt := 163) X dX6_isFree_140 (fun h140 => ?_) (fun h140 => ?_)
                  · refine r_iconst X dX6_isFree_163 ?_
                    refine r_goto (tgt := 168) X dX6_isFree_164 (by decide) ?_
                    refine r_istore3 X dX6_isFree_168 ?_
                    refine r_iinc4 X dX6_isFree_169 ?_
                    refine r_goto (tgt := 100) X dX6_isFree_172 (by decide) ?_
                    exact ih (i + 1) _ _ (by omega) (by omega) (by omega) (by omega) (by rw [z_all_s h0]; first | omega | grind)
                  · refine r_aload0 X dX6_isFree_143 ?_
                    refine r_get X 3 dX6_isFree_144 z_c80 in_X6 tw_561 (by decide) rfl rfl (by decide) ?_
                    refine r_iload5 X dX6_isFree_147 ?_
                    refine r_iconst X dX6_isFree_149 ?_
                    refine r_iadd X dX6_isFree_150 ?_
                    refine r_iald X dX6_isFree_151 z_c84 (by decide) ⟨by omega, by omega⟩ ?_
                    refine r_i2l X dX6_isFree_152 ⟨by omega, by omega⟩ ?_
                    refine r_aload0 X dX6_isFree_153 ?_
                    refine r_get X 7 dX6_isFree_154 z_c80 in_X6 tw_565 (by decide) rfl rfl (by decide) ?_
                    refine r_iload2 X dX6_isFree_157 ?_
                    refine r_lald X dX6_isFree_158 z_c87 (by decide) ⟨by omega, by omega⟩ ?_
                    refine r_lcmp X dX6_isFree_159 ⟨by omega, by omega⟩ ⟨by omega, by omega⟩ ?_
                    refine r_if_eqC (tgt := 167) X dX6_isFree_160 (fun h160 => ?_) (fun h160 => ?_)
                    · refine r_iconst X dX6_isFree_167 ?_
                      refine r_istore3 X dX6_isFree_168 ?_
                      refine r_iinc4 X dX6_isFree_169 ?_
                      refine r_goto (tgt := 100) X dX6_isFree_172 (by decide) ?_
                      exact ih (i + 1) _ _ (by omega) (by omega) (by omega) (by omega) (by rw [z_all_s h0]; first | omega | grind)
                    · refine r_iconst X dX6_isFree_163 ?_
                      refine r_goto (tgt := 168) X dX6_isFree_164 (by decide) ?_
                      refine r_istore3 X dX6_isFree_168 ?_
                      refine r_iinc4 X dX6_isFree_169 ?_
                      refine r_goto (tgt := 100) X dX6_isFree_172 (by decide) ?_
                      exact ih (i + 1) _ _ (by omega) (by omega) (by omega) (by omega) (by rw [z_all_s h0]; first | omega | grind)
          exact L2 8 0 _ none (by omega) (by omega) (by omega) f01 (by rw [hf, show i = k by omega]; exact ⟨fun h => ⟨h, fun j _ _ => by omega⟩, fun h => h.1⟩)
        · refine r_iload3 X dX6_isFree_47 ?_
          refine r_if_eq (tgt := 89) X dX6_isFree_48 ⟨by omega, by omega⟩ (fun h48 => ?_) (fun h48 => ?_)
          · refine r_iconst X dX6_isFree_89 ?_
            refine r_istore3 X dX6_isFree_90 ?_
            refine r_iinc4 X dX6_isFree_91 ?_
            refine r_goto (tgt := 41) X dX6_isFree_94 (by decide) ?_
            exact ih (i + 1) _ (by omega) (by omega) (by omega) (by omega) (by rw [z_all_s h0]; first | omega | grind)
          · refine r_aload0 X dX6_isFree_51 ?_
            refine r_get X 6 dX6_isFree_52 z_c80 in_X6 tw_564 (by decide) rfl rfl (by decide) ?_
            refine r_iload4 X dX6_isFree_55 ?_
            refine r_lald X dX6_isFree_57 z_c86 (by decide) ⟨by omega, by omega⟩ ?_
            refine r_aload0 X dX6_isFree_58 ?_
            refine r_get X 6 dX6_isFree_59 z_c80 in_X6 tw_564 (by decide) rfl rfl (by decide) ?_
            refine r_iload2 X dX6_isFree_62 ?_
            refine r_lald X dX6_isFree_63 z_c86 (by decide) ⟨by omega, by omega⟩ ?_
            refine r_lcmp X dX6_isFree_64 ⟨by omega, by omega⟩ ⟨by omega, by omega⟩ ?_
            refine r_if_neC (tgt := 85) X dX6_isFree_65 (fun h65 => ?_) (fun h65 => ?_)
            · refine r_iconst X dX6_isFree_85 ?_
              refine r_goto (tgt := 90) X dX6_isFree_86 (by decide) ?_
              refine r_istore3 X dX6_isFree_90 ?_
              refine r_iinc4 X dX6_isFree_91 ?_
              refine r_goto (tgt := 41) X dX6_isFree_94 (by decide) ?_
              exact ih (i + 1) _ (by omega) (by omega) (by omega) (by omega) (by rw [z_all_s h0]; first | omega | grind)
            · refine r_aload0 X dX6_isFree_68 ?_
              refine r_get X 7 dX6_isFree_69 z_c80 in_X6 tw_565 (by decide) rfl rfl (by decide) ?_
              refine r_iload4 X dX6_isFree_72 ?_
              refine r_lald X dX6_isFree_74 z_c87 (by decide) ⟨by omega, by omega⟩ ?_
              refine r_aload0 X dX6_isFree_75 ?_
              refine r_get X 7 dX6_isFree_76 z_c80 in_X6 tw_565 (by decide) rfl rfl (by decide) ?_
              refine r_iload2 X dX6_isFree_79 ?_
              refine r_lald X dX6_isFree_80 z_c87 (by decide) ⟨by omega, by omega⟩ ?_
              refine r_lcmp X dX6_isFree_81 ⟨by omega, by omega⟩ ⟨by omega, by omega⟩ ?_
              refine r_if_eqC (tgt := 89) X dX6_isFree_82 (fun h82 => ?_) (fun h82 => ?_)
              · refine r_iconst X dX6_isFree_89 ?_
                refine r_istore3 X dX6_isFree_90 ?_
                refine r_iinc4 X dX6_isFree_91 ?_
                refine r_goto (tgt := 41) X dX6_isFree_94 (by decide) ?_
                exact ih (i + 1) _ (by omega) (by omega) (by omega) (by omega) (by rw [z_all_s h0]; first | omega | grind)
              · refine r_iconst X dX6_isFree_85 ?_
                refine r_goto (tgt := 90) X dX6_isFree_86 (by decide) ?_
                refine r_istore3 X dX6_isFree_90 ?_
                refine r_iinc4 X dX6_isFree_91 ?_
                refine r_goto (tgt := 41) X dX6_isFree_94 (by decide) ?_
                exact ih (i + 1) _ (by omega) (by omega) (by omega) (by omega) (by rw [z_all_s h0]; first | omega | grind)
    exact L 17 0 _ (by omega) (by omega) (by omega) (by omega) (by constructor <;> intro hh <;> first | exact ⟨by omega, fun j _ _ => by omega⟩ | (exfalso; omega) | omega)
  · refine r_aload0 X dX6_isFree_16 ?_
    refine r_get X 7 dX6_isFree_17 z_c80 in_X6 tw_565 (by decide) rfl rfl (by decide) ?_
    refine r_iload2 X dX6_isFree_20 ?_
    refine r_lald X dX6_isFree_21 z_c87 (by decide) ⟨by omega, by omega⟩ ?_
    refine r_lconst X dX6_isFree_22 0 (by decide +kernel) ?_
    refine r_ldc2 X dX6_isFree_23 40 (by decide +kernel) tw_670 ?_
    refine r_callSi (n := 3) X (c_X6_in l X.2.2.1 _ _ _ _ ⟨by omega, by omega⟩ ⟨by omega, by omega⟩ ⟨by omega, by omega⟩) dX6_isFree_26 tw_619 tw_620 tw_46 tw_621 rfl (Nat.le_of_ble_eq_true rfl) ⟨by decide, by decide⟩ (by decide +kernel) rfl ?_
    refine r_if_eqB (tgt := 36) X dX6_isFree_29 (fun h29 => ?_) (fun h29 => ?_)
    · refine r_iconst X dX6_isFree_36 ?_
      refine r_istore3 X dX6_isFree_37 ?_
      refine r_iconst X dX6_isFree_38 ?_
      refine r_istore4 X dX6_isFree_39 ?_
      have L : ∀ (fu : Nat) (i f : Int), (k - i) < (fu : Int) → 0 ≤ i → i ≤ k → (f = 0 ∨ f = 1) → (f = 1 ↔ ((0 ≤ σ 86 k ∧ σ 86 k ≤ 40) ∧ 0 ≤ σ 87 k ∧ σ 87 k ≤ 40) ∧ (∀ j : Int, 0 ≤ j → j < i → ¬ (σ 86 j = σ 86 k ∧ σ 87 j = σ 87 k))) → z_G p l e (z_rm 1) s mm ([.ref (a 80), .int (zI q), .int (zI k)] : List Value).toArray below meth c 6 D κ a A 0 0 (MQ below (z_Qp D κ a A (fun z σ' => σ' = σ ∧ (z = 0 ∨ z = 1) ∧ (z = 1 ↔ p_free (fun d => σ 84 (3 * (7 * q + d))) (fun d => σ 84 (3 * (7 * q + d) + 1)) (σ 86) (σ 87) (σ 83 (2 * q + 1)) k))) ([.ref (a 80), .int (zI q), .int (zI k)] : List Value).toArray s 0 0 A) σ [some (.ref (a 80)), some (.int (zI q)), some (.int (zI k)), some (.int (zI f)), some (.int (zI i)), none] 41 [] := by
        intro fu
        induction fu with
        | zero =>
          intro i f hn h0 h1 f01 hf
          omega
        | succ fu ih =>
          intro i f hn h0 h1 f01 hf
          have xi := hx i (by omega) (by omega)
          have xk := hx k (by omega) (by omega)
          refine r_iload4 X dX6_isFree_41 ?_
          refine r_iload2 X dX6_isFree_43 ?_
          refine r_icmp_ge (tgt := 97) X dX6_isFree_44 ⟨⟨by omega, by omega⟩, by omega, by omega⟩ (fun h44 => ?_) (fun h44 => ?_)
          · refine r_iconst X dX6_isFree_97 ?_
            refine r_istore4 X dX6_isFree_98 ?_
            have L2 : ∀ (fu : Nat) (i f : Int) (o5 : Option Value), (σ 83 (2 * q + 1) - i) < (fu : Int) → 0 ≤ i → i ≤ σ 83 (2 * q + 1) → (f = 0 ∨ f = 1) → (f = 1 ↔ (((0 ≤ σ 86 k ∧ σ 86 k ≤ 40) ∧ 0 ≤ σ 87 k ∧ σ 87 k ≤ 40) ∧ (∀ j : Int, 0 ≤ j → j < k → ¬ (σ 86 j = σ 86 k ∧ σ 87 j = σ 87 k))) ∧ (∀ j : Int, 0 ≤ j → j < i → ¬ (σ 84 (3 * (7 * q + j)) = σ 86 k ∧ σ 84 (3 * (7 * q + j) + 1) = σ 87 k))) → z_G p l e (z_rm 1) s mm ([.ref (a 80), .int (zI q), .int (zI k)] : List Value).toArray below meth c 6 D κ a A 0 0 (MQ below (z_Qp D κ a A (fun z σ' => σ' = σ ∧ (z = 0 ∨ z = 1) ∧ (z = 1 ↔ p_free (fun d => σ 84 (3 * (7 * q + d))) (fun d => σ 84 (3 * (7 * q + d) + 1)) (σ 86) (σ 87) (σ 83 (2 * q + 1)) k))) ([.ref (a 80), .int (zI q), .int (zI k)] : List Value).toArray s 0 0 A) σ [some (.ref (a 80)), some (.int (zI q)), some (.int (zI k)), some (.int (zI f)), some (.int (zI i)), o5] 100 [] := by
              intro fu
              induction fu with
              | zero =>
                intro i f o5 hn h0 h1 f01 hf
                omega
              | succ fu ih =>
                intro i f o5 hn h0 h1 f01 hf
                have xk := hx k (by omega) (by omega)
                refine r_iload4 X dX6_isFree_100 ?_
                refine r_aload0 X dX6_isFree_102 ?_
                refine r_iload1 X dX6_isFree_103 ?_
                refine r_callVi (n := 1) X (c_X6_dotMany l X.2.2.1 _ _ ⟨by omega, by omega⟩) dX6_isFree_104 tw_662 tw_664 tw_20 tw_46 tw_665 z_c80 (by decide) rfl rfl (Nat.le_of_ble_eq_true rfl) ⟨by decide, by decide⟩ (by decide +kernel) rfl ?_
                refine r_icmp_ge (tgt := 175) X dX6_isFree_107 ⟨⟨by omega, by omega⟩, by omega, by omega⟩ (fun h107 => ?_) (fun h107 => ?_)
                · refine r_iload3 X dX6_isFree_175 ?_
                  exact r_zretp X M dX6_isFree_176 f01 ⟨rfl, f01, hf.trans ⟨fun q => ⟨q.1, fun d d0 d1 => q.2 d d0 (by omega)⟩, fun q => ⟨q.1, fun d d0 d1 => q.2 d d0 (by omega)⟩⟩⟩
                · have xi := hd (3 * (7 * q + i)) (by omega) (by omega)
                  have xj := hd (3 * (7 * q + i) + 1) (by omega) (by omega)
                  refine r_iconst X dX6_isFree_110 ?_
                  refine r_bipush X dX6_isFree_111 (by decide +kernel) ?_
                  refine r_iload1 X dX6_isFree_113 ?_
                  refine r_imul X dX6_isFree_114 ?_
                  refine r_iload4 X dX6_isFree_115 ?_
                  refine r_iadd X dX6_isFree_117 ?_
                  refine r_imul X dX6_isFree_118 ?_
                  refine r_istore5 X dX6_isFree_119 ?_
                  refine r_iload3 X dX6_isFree_121 ?_
                  refine r_if_eq (tgt := 167) X dX6_isFree_122 ⟨by omega, by omega⟩ (fun h122 => ?_) (fun h122 => ?_)
                  · refine r_iconst X dX6_isFree_167 ?_
                    refine r_istore3 X dX6_isFree_168 ?_
                    refine r_iinc4 X dX6_isFree_169 ?_
                    refine r_goto (tgt := 100) X dX6_isFree_172 (by decide) ?_
                    exact ih (i + 1) _ _ (by omega) (by omega) (by omega) (by omega) (by rw [z_all_s h0]; first | omega | grind)
                  · refine r_aload0 X dX6_isFree_125 ?_
                    refine r_get X 3 dX6_isFree_126 z_c80 in_X6 tw_561 (by decide) rfl rfl (by decide) ?_
                    refine r_iload5 X dX6_isFree_129 ?_
                    refine r_iald X dX6_isFree_131 z_c84 (by decide) ⟨by omega, by omega⟩ ?_
                    refine r_i2l X dX6_isFree_132 ⟨by omega, by omega⟩ ?_
                    refine r_aload0 X dX6_isFree_133 ?_
                    refine r_get X 6 dX6_isFree_134 z_c80 in_X6 tw_564 (by decide) rfl rfl (by decide) ?_
                    refine r_iload2 X dX6_isFree_137 ?_
                    refine r_lald X dX6_isFree_138 z_c86 (by decide) ⟨by omega, by omega⟩ ?_
                    refine r_lcmp X dX6_isFree_139 ⟨by omega, by omega⟩ ⟨by omega, by omega⟩ ?_
                    refine r_if_neC (tgt := 163) X dX6_isFree_140 (fun h140 => ?_) (fun h140 => ?_)
                    · refine r_iconst X dX6_isFree_163 ?_
                      refine r_goto (tgt := 168) X dX6_isFree_164 (by decide) ?_
                      refine r_istore3 X dX6_isFree_168 ?_
                      refine r_iinc4 X dX6_isFree_169 ?_
                      refine r_goto (tgt := 100) X dX6_isFree_172 (by decide) ?_
                      exact ih (i + 1) _ _ (by omega) (by omega) (by omega) (by omega) (by rw [z_all_s h0]; first | omega | grind)
                    · refine r_aload0 X dX6_isFree_143 ?_
                      refine r_get X 3 dX6_isFree_144 z_c80 in_X6 tw_561 (by decide) rfl rfl (by decide) ?_
                      refine r_iload5 X dX6_isFree_147 ?_
                      refine r_iconst X dX6_isFree_149 ?_
                      refine r_iadd X dX6_isFree_150 ?_
                      refine r_iald X dX6_isFree_151 z_c84 (by decide) ⟨by omega, by omega⟩ ?_
                      refine r_i2l X dX6_isFree_152 ⟨by omega, by omega⟩ ?_
                      refine r_aload0 X dX6_isFree_153 ?_
                      refine r_get X 7 dX6_isFree_154 z_c80 in_X6 tw_565 (by decide) rfl rfl (by decide) ?_
                      refine r_iload2 X dX6_isFree_157 ?_
                      refine r_lald X dX6_isFree_158 z_c87 (by decide) ⟨by omega, by omega⟩ ?_
                      refine r_lcmp X dX6_isFree_159 ⟨by omega, by omega⟩ ⟨by omega, by omega⟩ ?_
                      refine r_if_eqC (tgt := 167) X dX6_isFree_160 (fun h160 => ?_) (fun h160 => ?_)
                      · refine r_iconst X dX6_isFree_167 ?_
                        refine r_istore3 X dX6_isFree_168 ?_
                        refine r_iinc4 X dX6_isFree_169 ?_
                        refine r_goto (tgt := 100) X dX6_isFree_172 (by decide) ?_
                        exact ih (i + 1) _ _ (by omega) (by omega) (by omega) (by omega) (by rw [z_all_s h0]; first | omega | grind)
                      · refine r_iconst X dX6_isFree_163 ?_
                        refine r_goto (tgt := 168) X dX6_isFree_164 (by decide) ?_
                        refine r_istore3 X dX6_isFree_168 ?_
                        refine r_iinc4 X dX6_isFree_169 ?_
                        refine r_goto (tgt := 100) X dX6_isFree_172 (by decide) ?_
                        exact ih (i + 1) _ _ (by omega) (by omega) (by omega) (by omega) (by rw [z_all_s h0]; first | omega | grind)
            exact L2 8 0 _ none (by omega) (by omega) (by omega) f01 (by rw [hf, show i = k by omega]; exact ⟨fun h => ⟨h, fun j _ _ => by omega⟩, fun h => h.1⟩)
          · refine r_iload3 X dX6_isFree_47 ?_
            refine r_if_eq (tgt := 89) X dX6_isFree_48 ⟨by omega, by omega⟩ (fun h48 => ?_) (fun h48 => ?_)
            · refine r_iconst X dX6_isFree_89 ?_
              refine r_istore3 X dX6_isFree_90 ?_
              refine r_iinc4 X dX6_isFree_91 ?_
              refine r_goto (tgt := 41) X dX6_isFree_94 (by decide) ?_
              exact ih (i + 1) _ (by omega) (by omega) (by omega) (by omega) (by rw [z_all_s h0]; first | omega | grind)
            · refine r_aload0 X dX6_isFree_51 ?_
              refine r_get X 6 dX6_isFree_52 z_c80 in_X6 tw_564 (by decide) rfl rfl (by decide) ?_
              refine r_iload4 X dX6_isFree_55 ?_
              refine r_lald X dX6_isFree_57 z_c86 (by decide) ⟨by omega, by omega⟩ ?_
              refine r_aload0 X dX6_isFree_58 ?_
              refine r_get X 6 dX6_isFree_59 z_c80 in_X6 tw_564 (by decide) rfl rfl (by decide) ?_
              refine r_iload2 X dX6_isFree_62 ?_
              refine r_lald X dX6_isFree_63 z_c86 (by decide) ⟨by omega, by omega⟩ ?_
              refine r_lcmp X dX6_isFree_64 ⟨by omega, by omega⟩ ⟨by omega, by omega⟩ ?_
              refine r_if_neC (tgt := 85) X dX6_isFree_65 (fun h65 => ?_) (fun h65 => ?_)
              · refine r_iconst X dX6_isFree_85 ?_
                refine r_goto (tgt := 90) X dX6_isFree_86 (by decide) ?_
                refine r_istore3 X dX6_isFree_90 ?_
                refine r_iinc4 X dX6_isFree_91 ?_
                refine r_goto (tgt := 41) X dX6_isFree_94 (by decide) ?_
                exact ih (i + 1) _ (by omega) (by omega) (by omega) (by omega) (by rw [z_all_s h0]; first | omega | grind)
              · refine r_aload0 X dX6_isFree_68 ?_
                refine r_get X 7 dX6_isFree_69 z_c80 in_X6 tw_565 (by decide) rfl rfl (by decide) ?_
                refine r_iload4 X dX6_isFree_72 ?_
                refine r_lald X dX6_isFree_74 z_c87 (by decide) ⟨by omega, by omega⟩ ?_
                refine r_aload0 X dX6_isFree_75 ?_
                refine r_get X 7 dX6_isFree_76 z_c80 in_X6 tw_565 (by decide) rfl rfl (by decide) ?_
                refine r_iload2 X dX6_isFree_79 ?_
                refine r_lald X dX6_isFree_80 z_c87 (by decide) ⟨by omega, by omega⟩ ?_
                refine r_lcmp X dX6_isFree_81 ⟨by omega, by omega⟩ ⟨by omega, by omega⟩ ?_
                refine r_if_eqC (tgt := 89) X dX6_isFree_82 (fun h82 => ?_) (fun h82 => ?_)
                · refine r_iconst X dX6_isFree_89 ?_
                  refine r_istore3 X dX6_isFree_90 ?_
                  refine r_iinc4 X dX6_isFree_91 ?_
                  refine r_goto (tgt := 41) X dX6_isFree_94 (by decide) ?_
                  exact ih (i + 1) _ (by omega) (by omega) (by omega) (by omega) (by rw [z_all_s h0]; first | omega | grind)
                · refine r_iconst X dX6_isFree_85 ?_
                  refine r_goto (tgt := 90) X dX6_isFree_86 (by decide) ?_
                  refine r_istore3 X dX6_isFree_90 ?_
                  refine r_iinc4 X dX6_isFree_91 ?_
                  refine r_goto (tgt := 41) X dX6_isFree_94 (by decide) ?_
                  exact ih (i + 1) _ (by omega) (by omega) (by omega) (by omega) (by rw [z_all_s h0]; first | omega | grind)
      exact L 17 0 _ (by omega) (by omega) (by omega) (by omega) (by constructor <;> intro hh <;> first | exact ⟨by omega, fun j _ _ => by omega⟩ | (exfalso; omega) | omega)
    · refine r_iconst X dX6_isFree_32 ?_
      refine r_goto (tgt := 37) X dX6_isFree_33 (by decide) ?_
      refine r_istore3 X dX6_isFree_37 ?_
      refine r_iconst X dX6_isFree_38 ?_
      refine r_istore4 X dX6_isFree_39 ?_
      have L : ∀ (fu : Nat) (i f : Int), (k - i) < (fu : Int) → 0 ≤ i → i ≤ k → (f = 0 ∨ f = 1) → (f = 1 ↔ ((0 ≤ σ 86 k ∧ σ 86 k ≤ 40) ∧ 0 ≤ σ 87 k ∧ σ 87 k ≤ 40) ∧ (∀ j : Int, 0 ≤ j → j < i → ¬ (σ 86 j = σ 86 k ∧ σ 87 j = σ 87 k))) → z_G p l e (z_rm 1) s mm ([.ref (a 80), .int (zI q), .int (zI k)] : List Value).toArray below meth c 6 D κ a A 0 0 (MQ below (z_Qp D κ a A (fun z σ' => σ' = σ ∧ (z = 0 ∨ z = 1) ∧ (z = 1 ↔ p_free (fun d => σ 84 (3 * (7 * q + d))) (fun d => σ 84 (3 * (7 * q + d) + 1)) (σ 86) (σ 87) (σ 83 (2 * q + 1)) k))) ([.ref (a 80), .int (zI q), .int (zI k)] : List Value).toArray s 0 0 A) σ [some (.ref (a 80)), some (.int (zI q)), some (.int (zI k)), some (.int (zI f)), some (.int (zI i)), none] 41 [] := by
        intro fu
        induction fu with
        | zero =>
          intro i f hn h0 h1 f01 hf
          omega
        | succ fu ih =>
          intro i f hn h0 h1 f01 hf
          have xi := hx i (by omega) (by omega)
          have xk := hx k (by omega) (by omega)
          refine r_iload4 X dX6_isFree_41 ?_
          refine r_iload2 X dX6_isFree_43 ?_
          refine r_icmp_ge (tgt := 97) X dX6_isFree_44 ⟨⟨by omega, by omega⟩, by omega, by omega⟩ (fun h44 => ?_) (fun h44 => ?_)
          · refine r_iconst X dX6_isFree_97 ?_
            refine r_istore4 X dX6_isFree_98 ?_
            have L2 : ∀ (fu : Nat) (i f : Int) (o5 : Option Value), (σ 83 (2 * q + 1) - i) < (fu : Int) → 0 ≤ i → i ≤ σ 83 (2 * q + 1) → (f = 0 ∨ f = 1) → (f = 1 ↔ (((0 ≤ σ 86 k ∧ σ 86 k ≤ 40) ∧ 0 ≤ σ 87 k ∧ σ 87 k ≤ 40) ∧ (∀ j : Int, 0 ≤ j → j < k → ¬ (σ 86 j = σ 86 k ∧ σ 87 j = σ 87 k))) ∧ (∀ j : Int, 0 ≤ j → j < i → ¬ (σ 84 (3 * (7 * q + j)) = σ 86 k ∧ σ 84 (3 * (7 * q + j) + 1) = σ 87 k))) → z_G p l e (z_rm 1) s mm ([.ref (a 80), .int (zI q), .int (zI k)] : List Value).toArray below meth c 6 D κ a A 0 0 (MQ below (z_Qp D κ a A (fun z σ' => σ' = σ ∧ (z = 0 ∨ z = 1) ∧ (z = 1 ↔ p_free (fun d => σ 84 (3 * (7 * q + d))) (fun d => σ 84 (3 * (7 * q + d) + 1)) (σ 86) (σ 87) (σ 83 (2 * q + 1)) k))) ([.ref (a 80), .int (zI q), .int (zI k)] : List Value).toArray s 0 0 A) σ [some (.ref (a 80)), some (.int (zI q)), some (.int (zI k)), some (.int (zI f)), some (.int (zI i)), o5] 100 [] := by
              intro fu
              induction fu with
              | zero =>
                intro i f o5 hn h0 h1 f01 hf
                omega
              | succ fu ih =>
                intro i f o5 hn h0 h1 f01 hf
                have xk := hx k (by omega) (by omega)
                refine r_iload4 X dX6_isFree_100 ?_
                refine r_aload0 X dX6_isFree_102 ?_
                refine r_iload1 X dX6_isFree_103 ?_
                refine r_callVi (n := 1) X (c_X6_dotMany l X.2.2.1 _ _ ⟨by omega, by omega⟩) dX6_isFree_104 tw_662 tw_664 tw_20 tw_46 tw_665 z_c80 (by decide) rfl rfl (Nat.le_of_ble_eq_true rfl) ⟨by decide, by decide⟩ (by decide +kernel) rfl ?_
                refine r_icmp_ge (tgt := 175) X dX6_isFree_107 ⟨⟨by omega, by omega⟩, by omega, by omega⟩ (fun h107 => ?_) (fun h107 => ?_)
                · refine r_iload3 X dX6_isFree_175 ?_
                  exact r_zretp X M dX6_isFree_176 f01 ⟨rfl, f01, hf.trans ⟨fun q => ⟨q.1, fun d d0 d1 => q.2 d d0 (by omega)⟩, fun q => ⟨q.1, fun d d0 d1 => q.2 d d0 (by omega)⟩⟩⟩
                · have xi := hd (3 * (7 * q + i)) (by omega) (by omega)
                  have xj := hd (3 * (7 * q + i) + 1) (by omega) (by omega)
                  refine r_iconst X dX6_isFree_110 ?_
                  refine r_bipush X dX6_isFree_111 (by decide +kernel) ?_
                  refine r_iload1 X dX6_isFree_113 ?_
                  refine r_imul X dX6_isFree_114 ?_
                  refine r_iload4 X dX6_isFree_115 ?_
                  refine r_iadd X dX6_isFree_117 ?_
                  refine r_imul X dX6_isFree_118 ?_
                  refine r_istore5 X dX6_isFree_119 ?_
                  refine r_iload3 X dX6_isFree_121 ?_
                  refine r_if_eq (tgt := 167) X dX6_isFree_122 ⟨by omega, by omega⟩ (fun h122 => ?_) (fun h122 => ?_)
                  · refine r_iconst X dX6_isFree_167 ?_
                    refine r_istore3 X dX6_isFree_168 ?_
                    refine r_iinc4 X dX6_isFree_169 ?_
                    refine r_goto (tgt := 100) X dX6_isFree_172 (by decide) ?_
                    exact ih (i + 1) _ _ (by omega) (by omega) (by omega) (by omega) (by rw [z_all_s h0]; first | omega | grind)
                  · refine r_aload0 X dX6_isFree_125 ?_
                    refine r_get X 3 dX6_isFree_126 z_c80 in_X6 tw_561 (by decide) rfl rfl (by decide) ?_
                    refine r_iload5 X dX6_isFree_129 ?_
                    refine r_iald X dX6_isFree_131 z_c84 (by decide) ⟨by omega, by omega⟩ ?_
                    refine r_i2l X dX6_isFree_132 ⟨by omega, by omega⟩ ?_
                    refine r_aload0 X dX6_isFree_133 ?_
                    refine r_get X 6 dX6_isFree_134 z_c80 in_X6 tw_564 (by decide) rfl rfl (by decide) ?_
                    refine r_iload2 X dX6_isFree_137 ?_
                    refine r_lald X dX6_isFree_138 z_c86 (by decide) ⟨by omega, by omega⟩ ?_
                    refine r_lcmp X dX6_isFree_139 ⟨by omega, by omega⟩ ⟨by omega, by omega⟩ ?_
                    refine r_if_neC (tgt := 163) X dX6_isFree_140 (fun h140 => ?_) (fun h140 => ?_)
                    · refine r_iconst X dX6_isFree_163 ?_
                      refine r_goto (tgt := 168) X dX6_isFree_164 (by decide) ?_
                      refine r_istore3 X dX6_isFree_168 ?_
                      refine r_iinc4 X dX6_isFree_169 ?_
                      refine r_goto (tgt := 100) X dX6_isFree_172 (by decide) ?_
                      exact ih (i + 1) _ _ (by omega) (by omega) (by omega) (by omega) (by rw [z_all_s h0]; first | omega | grind)
                    · refine r_aload0 X dX6_isFree_143 ?_
                      refine r_get X 3 dX6_isFree_144 z_c80 in_X6 tw_561 (by decide) rfl rfl (by decide) ?_
                      refine r_iload5 X dX6_isFree_147 ?_
                      refine r_iconst X dX6_isFree_149 ?_
                      refine r_iadd X dX6_isFree_150 ?_
                      refine r_iald X dX6_isFree_151 z_c84 (by decide) ⟨by omega, by omega⟩ ?_
                      refine r_i2l X dX6_isFree_152 ⟨by omega, by omega⟩ ?_
                      refine r_aload0 X dX6_isFree_153 ?_
                      refine r_get X 7 dX6_isFree_154 z_c80 in_X6 tw_565 (by decide) rfl rfl (by decide) ?_
                      refine r_iload2 X dX6_isFree_157 ?_
                      refine r_lald X dX6_isFree_158 z_c87 (by decide) ⟨by omega, by omega⟩ ?_
                      refine r_lcmp X dX6_isFree_159 ⟨by omega, by omega⟩ ⟨by omega, by omega⟩ ?_
                      refine r_if_eqC (tgt := 167) X dX6_isFree_160 (fun h160 => ?_) (fun h160 => ?_)
                      · refine r_iconst X dX6_isFree_167 ?_
                        refine r_istore3 X dX6_isFree_168 ?_
                        refine r_iinc4 X dX6_isFree_169 ?_
                        refine r_goto (tgt := 100) X dX6_isFree_172 (by decide) ?_
                        exact ih (i + 1) _ _ (by omega) (by omega) (by omega) (by omega) (by rw [z_all_s h0]; first | omega | grind)
                      · refine r_iconst X dX6_isFree_163 ?_
                        refine r_goto (tgt := 168) X dX6_isFree_164 (by decide) ?_
                        refine r_istore3 X dX6_isFree_168 ?_
                        refine r_iinc4 X dX6_isFree_169 ?_
                        refine r_goto (tgt := 100) X dX6_isFree_172 (by decide) ?_
                        exact ih (i + 1) _ _ (by omega) (by omega) (by omega) (by omega) (by rw [z_all_s h0]; first | omega | grind)
            exact L2 8 0 _ none (by omega) (by omega) (by omega) f01 (by rw [hf, show i = k by omega]; exact ⟨fun h => ⟨h, fun j _ _ => by omega⟩, fun h => h.1⟩)
          · refine r_iload3 X dX6_isFree_47 ?_
            refine r_if_eq (tgt := 89) X dX6_isFree_48 ⟨by omega, by omega⟩ (fun h48 => ?_) (fun h48 => ?_)
            · refine r_iconst X dX6_isFree_89 ?_
              refine r_istore3 X dX6_isFree_90 ?_
              refine r_iinc4 X dX6_isFree_91 ?_
              refine r_goto (tgt := 41) X dX6_isFree_94 (by decide) ?_
              exact ih (i + 1) _ (by omega) (by omega) (by omega) (by omega) (by rw [z_all_s h0]; first | omega | grind)
            · refine r_aload0 X dX6_isFree_51 ?_
              refine r_get X 6 dX6_isFree_52 z_c80 in_X6 tw_564 (by decide) rfl rfl (by decide) ?_
              refine r_iload4 X dX6_isFree_55 ?_
              refine r_lald X dX6_isFree_57 z_c86 (by decide) ⟨by omega, by omega⟩ ?_
              refine r_aload0 X dX6_isFree_58 ?_
              refine r_get X 6 dX6_isFree_59 z_c80 in_X6 tw_564 (by decide) rfl rfl (by decide) ?_
              refine r_iload2 X dX6_isFree_62 ?_
              refine r_lald X dX6_isFree_63 z_c86 (by decide) ⟨by omega, by omega⟩ ?_
              refine r_lcmp X dX6_isFree_64 ⟨by omega, by omega⟩ ⟨by omega, by omega⟩ ?_
              refine r_if_neC (tgt := 85) X dX6_isFree_65 (fun h65 => ?_) (fun h65 => ?_)
              · refine r_iconst X dX6_isFree_85 ?_
                refine r_goto (tgt := 90) X dX6_isFree_86 (by decide) ?_
                refine r_istore3 X dX6_isFree_90 ?_
                refine r_iinc4 X dX6_isFree_91 ?_
                refine r_goto (tgt := 41) X dX6_isFree_94 (by decide) ?_
                exact ih (i + 1) _ (by omega) (by omega) (by omega) (by omega) (by rw [z_all_s h0]; first | omega | grind)
              · refine r_aload0 X dX6_isFree_68 ?_
                refine r_get X 7 dX6_isFree_69 z_c80 in_X6 tw_565 (by decide) rfl rfl (by decide) ?_
                refine r_iload4 X dX6_isFree_72 ?_
                refine r_lald X dX6_isFree_74 z_c87 (by decide) ⟨by omega, by omega⟩ ?_
                refine r_aload0 X dX6_isFree_75 ?_
                refine r_get X 7 dX6_isFree_76 z_c80 in_X6 tw_565 (by decide) rfl rfl (by decide) ?_
                refine r_iload2 X dX6_isFree_79 ?_
                refine r_lald X dX6_isFree_80 z_c87 (by decide) ⟨by omega, by omega⟩ ?_
                refine r_lcmp X dX6_isFree_81 ⟨by omega, by omega⟩ ⟨by omega, by omega⟩ ?_
                refine r_if_eqC (tgt := 89) X dX6_isFree_82 (fun h82 => ?_) (fun h82 => ?_)
                · refine r_iconst X dX6_isFree_89 ?_
                  refine r_istore3 X dX6_isFree_90 ?_
                  refine r_iinc4 X dX6_isFree_91 ?_
                  refine r_goto (tgt := 41) X dX6_isFree_94 (by decide) ?_
                  exact ih (i + 1) _ (by omega) (by omega) (by omega) (by omega) (by rw [z_all_s h0]; first | omega | grind)
                · refine r_iconst X dX6_isFree_85 ?_
                  refine r_goto (tgt := 90) X dX6_isFree_86 (by decide) ?_
                  refine r_istore3 X dX6_isFree_90 ?_
                  refine r_iinc4 X dX6_isFree_91 ?_
                  refine r_goto (tgt := 41) X dX6_isFree_94 (by decide) ?_
                  exact ih (i + 1) _ (by omega) (by omega) (by omega) (by omega) (by rw [z_all_s h0]; first | omega | grind)
      exact L 17 0 _ (by omega) (by omega) (by omega) (by omega) (by constructor <;> intro hh <;> first | exact ⟨by omega, fun j _ _ => by omega⟩ | (exfalso; omega) | omega)

theorem r_eql {p : Program} {l : Launch} {e : Env} {R : Room} {s : State} {m : MethodId} {args : Array Value} {below : List Frame} {meth : Method} {c : Code} {nL : Nat} {D : va_G} {κ : Nat → ClassId} {a : Nat → Nat} {A : Nat → Prop} {kc ks : Nat} {Q : State → Prop} {σ : zSt} {lv : List (Option Value)} {pc : Nat} {st : List Value} {x y : Int} (h : x = y) (k : z_G p l e R s m args below meth c nL D κ a A kc ks Q σ lv pc (.long (zL y) :: st)) : z_G p l e R s m args below meth c nL D κ a A kc ks Q σ lv pc (.long (zL x) :: st) := by rw [h]; exact k
def u_add (V : zV) (q x y : Int) : zV := z_upf (z_upf (z_upf (z_upf V (28 + 3 * (7 * q + V (18 + (2 * q + 1)))) x) (28 + (3 * (7 * q + V (18 + (2 * q + 1))) + 1)) y) (28 + (3 * (7 * q + V (18 + (2 * q + 1))) + 2)) 0) (18 + (2 * q + 1)) (V (18 + (2 * q + 1)) + 1)
def u_put (V : zV) (q : Int) (sx sy : Int → Int) : Nat → zV
  | 0 => V
  | i + 1 => u_add (u_put V q sx sy i) q (sx (i : Int)) (sy (i : Int))
theorem u_put_nd (V : zV) (q : Int) (sx sy : Int → Int) : ∀ i : Nat, u_put V q sx sy i (18 + (2 * q + 1)) = V (18 + (2 * q + 1)) + (i : Int)
  | 0 => by simp [u_put]
  | i + 1 => by
    have ih := u_put_nd V q sx sy i
    unfold u_put u_add
    rw [z_upf_s, ih]
    omega
theorem u_put_s (V : zV) (q : Int) (sx sy : Int → Int) (i : Nat) : u_put V q sx sy (i + 1) = u_add (u_put V q sx sy i) q (sx (i : Int)) (sy (i : Int)) := rfl
def p_at (V : zV) (q : Int) (sx sy : Int → Int) (n : Int) : Prop := p_ok (fun d => V (28 + 3 * (7 * q + d))) (fun d => V (28 + (3 * (7 * q + d) + 1))) sx sy (V (18 + (2 * q + 1))) n
noncomputable def s_put (V : zV) (q n : Int) (sx sy : Int → Int) : Int := if V (18 + (2 * q + 1)) + n > 7 then -2 else @ite Int (p_at V q sx sy n) (Classical.propDecidable _) (V (18 + (2 * q + 1)) + n) (-4)
theorem s_put_f {V : zV} {q n : Int} {sx sy : Int → Int} (h : 7 < V (18 + (2 * q + 1)) + n) : s_put V q n sx sy = -2 := if_pos h
theorem s_put_n {V : zV} {q n : Int} {sx sy : Int → Int} (h : V (18 + (2 * q + 1)) + n ≤ 7) (h2 : ¬ p_at V q sx sy n) : s_put V q n sx sy = -4 := by
  unfold s_put
  rw [if_neg (by omega), if_neg h2]
theorem s_put_p {V : zV} {q n : Int} {sx sy : Int → Int} (h : V (18 + (2 * q + 1)) + n ≤ 7) (h2 : p_at V q sx sy n) : s_put V q n sx sy = V (18 + (2 * q + 1)) + n := by
  unfold s_put
  rw [if_neg (by omega), if_pos h2]
/-- the same numbers at the places that count: the same places are free -/
theorem p_free_c {fX fY gX gY sx sy tx ty : Int → Int} {nd md k : Int} (hk : 0 ≤ k) (hn : nd = md) (h1 : ∀ d : Int, 0 ≤ d → d < nd → fX d = gX d ∧ fY d = gY d) (h2 : ∀ j : Int, 0 ≤ j → j ≤ k → sx j = tx j ∧ sy j = ty j) : p_free fX fY sx sy nd k ↔ p_free gX gY tx ty md k := by
  subst hn
  unfold p_free
  rw [(h2 k hk (Int.le_refl _)).1, (h2 k hk (Int.le_refl _)).2]
  refine and_congr (and_congr Iff.rfl ⟨fun h i a b => ?_, fun h i a b => ?_⟩) ⟨fun h i a b => ?_, fun h i a b => ?_⟩
  · rw [← (h2 i a (by omega)).1, ← (h2 i a (by omega)).2]; exact h i a b
  · rw [(h2 i a (by omega)).1, (h2 i a (by omega)).2]; exact h i a b
  · rw [← (h1 i a b).1, ← (h1 i a b).2]; exact h i a b
  · rw [(h1 i a b).1, (h1 i a b).2]; exact h i a b

set_option maxRecDepth 100000 in
set_option maxHeartbeats 4000000 in
theorem c_X6_comes (l : Launch) {D : va_G} {κ : Nat → ClassId} {a : Nat → Nat} {A : Nat → Prop} (hA : z_aD a A) (σ : zSt) (q n : Int) (V : zV) (sx sy : Int → Int) (hV : v_ok V) (hM : zModel σ V) (hq : 0 ≤ q ∧ q < V 1) (hn0 : σ 80 8 = n) (hn : 1 ≤ n ∧ n ≤ 16) (hsh : ∀ j : Int, 0 ≤ j → j < n → σ 86 j = sx j ∧ σ 87 j = sy j) (hsr : ∀ j : Int, 0 ≤ j → j < n → (-9000000000 ≤ sx j ∧ sx j ≤ 9000000000) ∧ -9000000000 ≤ sy j ∧ sy j ≤ 9000000000) : z_Tp l D κ a A yX6_comes cX6_comes 4 (some .int) 2 [.ref (a 80), .int (zI q)] σ (fun z σ' => z = s_put V q n sx sy ∧ zMup σ σ' (z_if z V (u_put V q sx sy n.toNat))) := by
  refine z_Tp_of (cc := cX6_comes) (maxL := 4) (ret := (some .int)) (own := RX6) (lv0 := [some (.ref (a 80)), some (.int (zI q)), none, none]) hA (by decide) rfl (Nat.le_of_ble_eq_true rfl) rfl ?_
  intro p e s mm below meth c X M
  obtain ⟨⟨hv0, hv1, hv2, hv3, hv4, hv5⟩, hvm, hvb, hvk, hvc, hvd⟩ := id hV
  have q1 := hvk q (by omega) (by omega)
  rw [show 19 + 2 * q = 18 + (2 * q + 1) by omega] at q1
  have e3 := hM.2.2.1 (2 * q + 1) (by omega) (by omega)
  have hd : ∀ j : Int, 0 ≤ j → j < 105 → 0 ≤ σ 84 j ∧ σ 84 j ≤ 40 := fun j j0 j1 => by
    have h := hvd (j / 3) (by omega) (by omega)
    have e := hM.2.2.2 j j0 j1
    rcases (show j = 3 * (j / 3) ∨ j = 3 * (j / 3) + 1 ∨ j = 3 * (j / 3) + 2 by omega) with k | k | k
    · rw [show 28 + j = 28 + 3 * (j / 3) by omega] at e; omega
    · rw [show 28 + j = 29 + 3 * (j / 3) by omega] at e; omega
    · rw [show 28 + j = 30 + 3 * (j / 3) by omega] at e; omega
  have hfree : ∀ k : Int, 0 ≤ k → k < n → V (18 + (2 * q + 1)) + n ≤ 7 → (p_free (fun d => σ 84 (3 * (7 * q + d))) (fun d => σ 84 (3 * (7 * q + d) + 1)) (σ 86) (σ 87) (σ 83 (2 * q + 1)) k ↔ p_free (fun d => V (28 + 3 * (7 * q + d))) (fun d => V (28 + (3 * (7 * q + d) + 1))) sx sy (V (18 + (2 * q + 1))) k) := fun k k0 k1 k2 => p_free_c k0 e3 (fun d d0 d1 => ⟨hM.2.2.2 _ (by omega) (by omega), hM.2.2.2 _ (by omega) (by omega)⟩) (fun j j0 j1 => hsh j j0 (by omega))
  refine r_aload0 X dX6_comes_0 ?_
  refine r_iload1 X dX6_comes_1 ?_
  refine r_callVi (n := 1) X (c_X6_dotMany l X.2.2.1 _ _ ⟨by omega, by omega⟩) dX6_comes_2 tw_662 tw_664 tw_20 tw_46 tw_665 z_c80 (by decide) rfl rfl (Nat.le_of_ble_eq_true rfl) ⟨by decide, by decide⟩ (by decide +kernel) rfl ?_
  refine r_eqi e3 ?_
  refine r_aload0 X dX6_comes_5 ?_
  refine r_get X 8 dX6_comes_6 z_c80 in_X6 tw_566 (by decide) rfl rfl (by decide) ?_
  refine r_eqi hn0 ?_
  refine r_iadd X dX6_comes_9 ?_
  refine r_bipush X dX6_comes_10 (by decide +kernel) ?_
  refine r_icmp_le (tgt := 18) X dX6_comes_12 ⟨⟨by omega, by omega⟩, by omega, by omega⟩ (fun h12 => ?_) (fun h12 => ?_)
  · refine r_iconst X dX6_comes_18 ?_
    refine r_istore2 X dX6_comes_19 ?_
    have L : ∀ (fu : Nat) (i : Int), (n - i) < (fu : Int) → 0 ≤ i → i ≤ n → (∀ k : Int, 0 ≤ k → k < i → p_free (fun d => V (28 + 3 * (7 * q + d))) (fun d => V (28 + (3 * (7 * q + d) + 1))) sx sy (V (18 + (2 * q + 1))) k) → z_G p l e (z_rm 2) s mm ([.ref (a 80), .int (zI q)] : List Value).toArray below meth c 4 D κ a A 0 0 (MQ below (z_Qp D κ a A (fun z σ' => z = s_put V q n sx sy ∧ zMup σ σ' (z_if z V (u_put V q sx sy n.toNat)))) ([.ref (a 80), .int (zI q)] : List Value).toArray s 0 0 A) σ [some (.ref (a 80)), some (.int (zI q)), some (.int (zI i)), none] 20 [] := by
      intro fu
      induction fu with
      | zero =>
        intro i hn h0 h1 hf
        omega
      | succ fu ih =>
        intro i hn h0 h1 hf
        refine r_iload2 X dX6_comes_20 ?_
        refine r_aload0 X dX6_comes_21 ?_
        refine r_get X 8 dX6_comes_22 z_c80 in_X6 tw_566 (by decide) rfl rfl (by decide) ?_
        refine r_eqi hn0 ?_
        refine r_icmp_ge (tgt := 46) X dX6_comes_25 ⟨⟨by omega, by omega⟩, by omega, by omega⟩ (fun h25 => ?_) (fun h25 => ?_)
        · have hpok : p_at V q sx sy n := fun k k0 k1 => hf k k0 (by omega)
          refine r_iconst X dX6_comes_46 ?_
          refine r_istore2 X dX6_comes_47 ?_
          have L2 : ∀ (fu : Nat) (i : Int) (o3 : Option Value) (σ1 : zSt), (n - i) < (fu : Int) → 0 ≤ i → i ≤ n → zMup σ σ1 (u_put V q sx sy i.toNat) → σ1 86 = σ 86 → σ1 87 = σ 87 → σ1 80 8 = n → z_G p l e (z_rm 2) s mm ([.ref (a 80), .int (zI q)] : List Value).toArray below meth c 4 D κ a A 0 0 (MQ below (z_Qp D κ a A (fun z σ' => z = s_put V q n sx sy ∧ zMup σ σ' (z_if z V (u_put V q sx sy n.toNat)))) ([.ref (a 80), .int (zI q)] : List Value).toArray s 0 0 A) σ1 [some (.ref (a 80)), some (.int (zI q)), some (.int (zI i)), o3] 48 [] := by
            intro fu
            induction fu with
            | zero =>
              intro i o3 σ1 hn h0 h1 hU h86 h87 h80
              omega
            | succ fu ih =>
              intro i o3 σ1 hn h0 h1 hU h86 h87 h80
              have hc : σ1 83 (2 * q + 1) = V (18 + (2 * q + 1)) + i := by
                rw [hU.1.2.2.1 (2 * q + 1) (by omega) (by omega), u_put_nd, show ((i.toNat : Nat) : Int) = i by omega]
              refine r_iload2 X dX6_comes_48 ?_
              refine r_aload0 X dX6_comes_49 ?_
              refine r_get X 8 dX6_comes_50 z_c80 in_X6 tw_566 (by decide) rfl rfl (by decide) ?_
              refine r_eqi h80 ?_
              refine r_icmp_ge (tgt := 126) X dX6_comes_53 ⟨⟨by omega, by omega⟩, by omega, by omega⟩ (fun h53 => ?_) (fun h53 => ?_)
              · refine r_aload0 X dX6_comes_126 ?_
                refine r_iload1 X dX6_comes_127 ?_
                refine r_callVi (n := 1) X (c_X6_dotMany l X.2.2.1 _ _ ⟨by omega, by omega⟩) dX6_comes_128 tw_662 tw_664 tw_20 tw_46 tw_665 z_c80 (by decide) rfl rfl (Nat.le_of_ble_eq_true rfl) ⟨by decide, by decide⟩ (by decide +kernel) rfl ?_
                refine r_eqi hc ?_
                exact r_iretp X M dX6_comes_131 ⟨by rw [s_put_p (by omega) hpok]; omega, by rw [zIf_p (by omega), show n.toNat = i.toNat by omega]; exact hU⟩
              · have hsi := hsh i (by omega) (by omega)
                have hri := hsr i (by omega) (by omega)
                refine r_iconst X dX6_comes_56 ?_
                refine r_bipush X dX6_comes_57 (by decide +kernel) ?_
                refine r_iload1 X dX6_comes_59 ?_
                refine r_imul X dX6_comes_60 ?_
                refine r_aload0 X dX6_comes_61 ?_
                refine r_iload1 X dX6_comes_62 ?_
                refine r_callVi (n := 1) X (c_X6_dotMany l X.2.2.1 _ _ ⟨by omega, by omega⟩) dX6_comes_63 tw_662 tw_664 tw_20 tw_46 tw_665 z_c80 (by decide) rfl rfl (Nat.le_of_ble_eq_true rfl) ⟨by decide, by decide⟩ (by decide +kernel) rfl ?_
                refine r_eqi hc ?_
                refine r_iadd X dX6_comes_66 ?_
                refine r_imul X dX6_comes_67 ?_
                refine r_istore3 X dX6_comes_68 ?_
                refine r_aload0 X dX6_comes_69 ?_
                refine r_get X 3 dX6_comes_70 z_c80 in_X6 tw_561 (by decide) rfl rfl (by decide) ?_
                refine r_iload3 X dX6_comes_73 ?_
                refine r_aload0 X dX6_comes_74 ?_
                refine r_get X 6 dX6_comes_75 z_c80 in_X6 tw_564 (by decide) rfl rfl (by decide) ?_
                refine r_iload2 X dX6_comes_78 ?_
                refine r_lald X dX6_comes_79 z_c86 (by decide) ⟨by omega, by omega⟩ ?_
                refine r_eql (y := sx i) (by rw [h86]; exact hsi.1) ?_
                refine r_l2i X dX6_comes_80 ⟨by omega, by omega⟩ ?_
                refine r_iast X dX6_comes_81 z_c84 (by decide) ⟨by omega, by omega⟩ ?_
                refine r_aload0 X dX6_comes_82 ?_
                refine r_get X 3 dX6_comes_83 z_c80 in_X6 tw_561 (by decide) rfl rfl (by decide) ?_
                refine r_iload3 X dX6_comes_86 ?_
                refine r_iconst X dX6_comes_87 ?_
                refine r_iadd X dX6_comes_88 ?_
                refine r_aload0 X dX6_comes_89 ?_
                refine r_get X 7 dX6_comes_90 z_c80 in_X6 tw_565 (by decide) rfl rfl (by decide) ?_
                refine r_iload2 X dX6_comes_93 ?_
                refine r_lald X dX6_comes_94 z_c87 (by decide) ⟨by omega, by omega⟩ ?_
                refine r_eql (y := sy i) (by (repeat rw [z_up_c (by decide)]); rw [h87]; exact hsi.2) ?_
                refine r_l2i X dX6_comes_95 ⟨by omega, by omega⟩ ?_
                refine r_iast X dX6_comes_96 z_c84 (by decide) ⟨by omega, by omega⟩ ?_
                refine r_aload0 X dX6_comes_97 ?_
                refine r_get X 3 dX6_comes_98 z_c80 in_X6 tw_561 (by decide) rfl rfl (by decide) ?_
                refine r_iload3 X dX6_comes_101 ?_
                refine r_iconst X dX6_comes_102 ?_
                refine r_iadd X dX6_comes_103 ?_
                refine r_iconst X dX6_comes_104 ?_
                refine r_iast X dX6_comes_105 z_c84 (by decide) ⟨by omega, by omega⟩ ?_
                refine r_aload0 X dX6_comes_106 ?_
                refine r_get X 2 dX6_comes_107 z_c80 in_X6 tw_560 (by decide) rfl rfl (by decide) ?_
                refine r_iconst X dX6_comes_110 ?_
                refine r_iload1 X dX6_comes_111 ?_
                refine r_imul X dX6_comes_112 ?_
                refine r_iconst X dX6_comes_113 ?_
                refine r_iadd X dX6_comes_114 ?_
                refine r_dup2 X dX6_comes_115 rfl rfl ?_
                refine r_iald X dX6_comes_116 z_c83 (by decide) ⟨by omega, by omega⟩ ?_
                refine r_eqi (y := V (18 + (2 * q + 1)) + i) (by (repeat rw [z_up_c (by decide)]); exact hc) ?_
                refine r_iconst X dX6_comes_117 ?_
                refine r_iadd X dX6_comes_118 ?_
                refine r_iast X dX6_comes_119 z_c83 (by decide) ⟨by omega, by omega⟩ ?_
                refine r_iinc2 X dX6_comes_120 ?_
                refine r_goto (tgt := 48) X dX6_comes_123 (by decide) ?_
                exact ih (i + 1) _ _ (by omega) (by omega) (by omega) (((((hU.u84 (sx i) (by omega) (by omega)).u84 (sy i) (by omega) (by omega)).u84 0 (by omega) (by omega)).u83 (V (18 + (2 * q + 1)) + i + 1) (by omega) (by omega)).eq (by rw [show (i + 1).toNat = i.toNat + 1 by omega, u_put_s]; unfold u_add; rw [u_put_nd, show ((i.toNat : Nat) : Int) = i by omega])) (by (repeat rw [z_up_c (by decide)]); exact h86) (by (repeat rw [z_up_c (by decide)]); exact h87) (by (repeat rw [z_up_c (by decide)]); exact h80)
          exact L2 17 0 none σ (by omega) (by omega) (by omega) (zMup.refl hM) rfl rfl hn0
        · refine r_aload0 X dX6_comes_28 ?_
          refine r_iload1 X dX6_comes_29 ?_
          refine r_iload2 X dX6_comes_30 ?_
          refine r_callVp (n := 2) X (c_X6_isFree l X.2.2.1 _ _ _ ⟨by omega, by omega⟩ ⟨by omega, by omega⟩ ⟨by omega, by omega⟩ (fun j j0 j1 => by have h1 := hsh j j0 (by omega); have h2 := hsr j j0 (by omega); omega) hd) dX6_comes_31 tw_666 tw_668 tw_21 tw_46 tw_669 z_c80 (by decide) rfl rfl (Nat.le_of_ble_eq_true rfl) ⟨by decide, by decide⟩ (by decide +kernel) rfl (fun fz σ1 hfz => ?_)
          refine r_if_ne (tgt := 40) X dX6_comes_34 ⟨by omega, by omega⟩ (fun h34 => ?_) (fun h34 => ?_)
          · have hs1 := hfz.1
            subst hs1
            refine r_iinc2 X dX6_comes_40 ?_
            refine r_goto (tgt := 20) X dX6_comes_43 (by decide) ?_
            exact ih (i + 1) (by omega) (by omega) (by omega) ((z_all_s h0).mpr ⟨hf, (hfree i (by omega) (by omega) (by omega)).mp (hfz.2.2.mp (by omega))⟩)
          · have hs1 := hfz.1
            subst hs1
            refine r_bipush X dX6_comes_37 (by decide +kernel) ?_
            exact r_iretp X M dX6_comes_39 ⟨by rw [s_put_n (by omega) (fun hh => by have h1 := (hfree i (by omega) (by omega) (by omega)).mpr (hh i (by omega) (by omega)); have h2 := hfz.2.2.mpr h1; omega)], by rw [zIf_n (by omega)]; exact zMup.refl hM⟩
    exact L 17 0 (by omega) (by omega) (by omega) (fun k _ _ => by omega)
  · refine r_bipush X dX6_comes_15 (by decide +kernel) ?_
    exact r_iretp X M dX6_comes_17 ⟨by rw [s_put_f (by omega)], by rw [zIf_n (by omega)]; exact zMup.refl hM⟩

