theorem vw_before {V : zV} {t : Nat} {m : Int} (ht : t < vN V) (h0 : 0 ≤ m) (h1 : m < vw V t) (h2 : V (6 + (2 * m + 1)) = 0) : ∃ i, i < t ∧ vw V i = m := by
  obtain ⟨i, hi, e⟩ := vw_ex h0 (by have := (vw_in ht).1; omega) h2
  refine ⟨i, ?_, e⟩
  rcases Nat.lt_trichotomy i t with h | h | h
  · exact h
  · subst h; omega
  · have := vw_lt h hi; omega
/-- what the model's search stands on -/
def mE (σ : zSt) (V : zV) (p : Int) (gt : Nat → Int) : Prop := v_ok V ∧ zModel σ V ∧ (0 ≤ p ∧ p < 5) ∧ (p ≠ 0 → ∀ t, t < vN V → σ 88 (6 * (p - 1) + vw V t) = gt t ∧ 0 ≤ gt t ∧ gt t < 7) ∧ 1 ≤ vc V p
theorem mE.ill {σ : zSt} {V : zV} {p : Int} {gt : Nat → Int} (h : mE σ V p gt) {m : Int} (h0 : 0 ≤ m) (h1 : m < 6) : σ 82 (2 * m + 1) = V (6 + (2 * m + 1)) ∧ 0 ≤ V (6 + (2 * m + 1)) ∧ V (6 + (2 * m + 1)) ≤ 1 := by
  have q1 := h.1.2.1 m h0 h1
  rw [show 7 + 2 * m = 6 + (2 * m + 1) by omega] at q1
  exact ⟨h.2.1.2.1 (2 * m + 1) (by omega) (by omega), q1.2⟩

theorem nr_in {h fx fy tx ty s0 : Int} (hh : 0 ≤ h ∧ h ≤ 32) (h1 : -40 ≤ fx ∧ fx ≤ 40) (h2 : -40 ≤ fy ∧ fy ≤ 40) (h3 : -40 ≤ tx ∧ tx ≤ 40) (h4 : -40 ≤ ty ∧ ty ≤ 40) (hs : 0 ≤ s0) : ∀ t : Nat, t ≤ 31 → 0 ≤ nr h fx fy tx ty s0 t ∧ nr h fx fy tx ty s0 t ≤ s0 ∧ (t ≠ 0 → nr h fx fy tx ty s0 t ≤ 4000)
  | 0, _ => ⟨hs, Int.le_refl _, fun q => absurd rfl q⟩
  | t + 1, ht => by
    have ih := nr_in (s0 := s0) hh h1 h2 h3 h4 hs t (by omega)
    have nb := (nval_in (h := h) (t := (t : Int) + 1) hh (by omega) h1 h2 h3 h4).2
    unfold nr
    omega
theorem vnear_in {V : zV} (hV : v_ok V) {p f1 d1 f2 d2 : Int} (hp : 1 ≤ p ∧ p < 5) (hf1 : 0 ≤ f1 ∧ f1 < 7) (hd1 : 0 ≤ d1 ∧ d1 < 7) (hf2 : 0 ≤ f2 ∧ f2 < 7) (hd2 : 0 ≤ d2 ∧ d2 < 7) (hc : 1 ≤ vc V p) : 0 ≤ vnear V p f1 d1 f2 d2 ∧ vnear V p f1 d1 f2 d2 ≤ 4000 := by
  have b1 := vxy_in hV (k := p) (d := d1) (by omega) hd1
  have b2 := vxy_in hV (k := p) (d := d2) (by omega) hd2
  have b3 := vxy_in hV (k := p - 1) (d := f1) (by omega) hf1
  have b4 := vxy_in hV (k := p - 1) (d := f2) (by omega) hf2
  have b5 := vn_in hV (k := p) (by omega)
  unfold vnear
  have := nr_in (h := 2 * vc V p) (fx := vx V (p - 1) f1 - vx V (p - 1) f2) (fy := vy V (p - 1) f1 - vy V (p - 1) f2) (tx := vx V p d1 - vx V p d2) (ty := vy V p d1 - vy V p d2) (s0 := 1000000) (by omega) (by omega) (by omega) (by omega) (by omega) (by omega) (2 * vc V p - 1).toNat (by omega)
  exact ⟨this.1, this.2.2 (by omega)⟩

set_option maxRecDepth 100000 in
set_option maxHeartbeats 4000000 in
theorem c_X6_mayGo (l : Launch) {D : va_G} {κ : Nat → ClassId} {a : Nat → Nat} {A : Nat → Prop} (hA : z_aD a A) (σ : zSt) (p : Int) (t : Nat) (tk gt : Nat → Int) (d : Nat) (V : zV) (hE : mE σ V p gt) (ht : t < vN V) (htk : ∀ i, i < t → σ 92 (vw V i) = tk i ∧ 0 ≤ tk i ∧ tk i < 7) (hdd : σ 92 (vw V t) = (d : Int)) (hd7 : d < 7) : z_Tp l D κ a A yX6_mayGo cX6_mayGo 6 (some .boolean) 2 [.ref (a 80), .int (zI p), .int (zI (vw V t))] σ (fun z σ' => σ' = σ ∧ (z = 0 ∨ z = 1) ∧ (z = 1 ↔ vok V p gt t tk d)) := by
  refine z_Tp_of (cc := cX6_mayGo) (maxL := 6) (ret := (some .boolean)) (own := RX6) (lv0 := [some (.ref (a 80)), some (.int (zI p)), some (.int (zI (vw V t))), none, none, none]) hA (by decide) rfl (Nat.le_of_ble_eq_true rfl) rfl ?_
  intro pg e s mm below meth c X M
  have hwt := (vw_in ht).1
  have hv0 := hE.1.1.1
  have hp5 := hE.2.2.1
  refine r_aload0 X dX6_mayGo_0 ?_
  refine r_get X 13 dX6_mayGo_1 z_c80 in_X6 tw_571 (by decide) rfl rfl (by decide) ?_
  refine r_iload2 X dX6_mayGo_4 ?_
  refine r_iald X dX6_mayGo_5 z_c92 (by decide) ⟨by omega, by omega⟩ ?_
  refine r_eqi hdd ?_
  refine r_istore3 X dX6_mayGo_6 ?_
  refine r_iconst X dX6_mayGo_7 ?_
  refine r_istore4 X dX6_mayGo_8 ?_
  have L : ∀ (fu : Nat) (m : Int), (vw V t - m) < (fu : Int) → 0 ≤ m → m ≤ vw V t → (∀ i, i < t → vw V i < m → tk i ≠ (d : Int)) → z_G pg l e (z_rm 2) s mm ([.ref (a 80), .int (zI p), .int (zI (vw V t))] : List Value).toArray below meth c 6 D κ a A 0 0 (MQ below (z_Qp D κ a A (fun z σ' => σ' = σ ∧ (z = 0 ∨ z = 1) ∧ (z = 1 ↔ vok V p gt t tk d))) ([.ref (a 80), .int (zI p), .int (zI (vw V t))] : List Value).toArray s 0 0 A) σ [some (.ref (a 80)), some (.int (zI p)), some (.int (zI (vw V t))), some (.int (zI (d : Int))), some (.int (zI m)), none] 10 [] := by
    intro fu
    induction fu with
    | zero =>
      intro m hn h0 h1 hf
      omega
    | succ fu ihL =>
      intro m hn h0 h1 hf
      refine r_iload4 X dX6_mayGo_10 ?_
      refine r_iload2 X dX6_mayGo_12 ?_
      refine r_icmp_ge (tgt := 44) X dX6_mayGo_13 ⟨⟨by omega, by omega⟩, by omega, by omega⟩ (fun h13 => ?_) (fun h13 => ?_)
      · have hall : ∀ i, i < t → tk i ≠ (d : Int) := fun i hi => hf i hi (by have := vw_lt hi ht; omega)
        refine r_iload1 X dX6_mayGo_44 ?_
        refine r_if_ne (tgt := 50) X dX6_mayGo_45 ⟨by omega, by omega⟩ (fun h45 => ?_) (fun h45 => ?_)
        · have hgtt := hE.2.2.2.1 h45 t ht
          have hsr := vstep_in hE.1 (p := p) (f := gt t) (d := (d : Int)) (by omega) hgtt.2 (by omega)
          have hbm := hE.1.2.1 (vw V t) (by omega) (by omega)
          have hcc := vn_in hE.1 (k := p) (by omega)
          have hml := z_mul_b (a := V (6 + 2 * vw V t)) (b := vc V p) (A := 4) (B := 16) (by omega) (by omega) (by omega) (by omega)
          refine r_aload0 X dX6_mayGo_50 ?_
          refine r_iload1 X dX6_mayGo_51 ?_
          refine r_iload2 X dX6_mayGo_52 ?_
          refine r_iload3 X dX6_mayGo_53 ?_
          refine r_callVi (n := 3) X (c_X6_stepTo l X.2.2.1 _ p _ _ (gt t) ⟨by omega, by omega⟩ ⟨by omega, by omega⟩ ⟨by omega, by omega⟩ hgtt.2 hgtt.1 V hE.1 hE.2.1) dX6_mayGo_54 tw_731 tw_733 tw_28 tw_46 tw_734 z_c80 (by decide) rfl rfl (Nat.le_of_ble_eq_true rfl) ⟨by decide, by decide⟩ (by decide +kernel) rfl ?_
          refine r_aload0 X dX6_mayGo_57 ?_
          refine r_get X 1 dX6_mayGo_58 z_c80 in_X6 tw_559 (by decide) rfl rfl (by decide) ?_
          refine r_iconst X dX6_mayGo_61 ?_
          refine r_iload2 X dX6_mayGo_62 ?_
          refine r_imul X dX6_mayGo_63 ?_
          refine r_iald X dX6_mayGo_64 z_c82 (by decide) ⟨by omega, by omega⟩ ?_
          refine r_eqi (hE.2.1.2.1 _ (by omega) (by omega)) ?_
          refine r_aload0 X dX6_mayGo_65 ?_
          refine r_get X 2 dX6_mayGo_66 z_c80 in_X6 tw_560 (by decide) rfl rfl (by decide) ?_
          refine r_iconst X dX6_mayGo_69 ?_
          refine r_iload1 X dX6_mayGo_70 ?_
          refine r_imul X dX6_mayGo_71 ?_
          refine r_iald X dX6_mayGo_72 z_c83 (by decide) ⟨by omega, by omega⟩ ?_
          refine r_eqi (y := vc V p) (hE.2.1.2.2.1 _ (by omega) (by omega)) ?_
          refine r_imul X dX6_mayGo_73 ?_
          refine r_icmp_le (tgt := 79) X dX6_mayGo_74 ⟨⟨by omega, by omega⟩, by omega, by omega⟩ (fun h74 => ?_) (fun h74 => ?_)
          · have hap := hE.1.1.2.2.1
            have hm2 := z_mul_b (a := 2 * vc V p) (b := V 2) (A := 32) (B := 3) (by omega) (by omega) (by omega) (by omega)
            refine r_iconst X dX6_mayGo_79 ?_
            refine r_aload0 X dX6_mayGo_80 ?_
            refine r_get X 2 dX6_mayGo_81 z_c80 in_X6 tw_560 (by decide) rfl rfl (by decide) ?_
            refine r_iconst X dX6_mayGo_84 ?_
            refine r_iload1 X dX6_mayGo_85 ?_
            refine r_imul X dX6_mayGo_86 ?_
            refine r_iald X dX6_mayGo_87 z_c83 (by decide) ⟨by omega, by omega⟩ ?_
            refine r_eqi (y := vc V p) (hE.2.1.2.2.1 _ (by omega) (by omega)) ?_
            refine r_imul X dX6_mayGo_88 ?_
            refine r_aload0 X dX6_mayGo_89 ?_
            refine r_get X 0 dX6_mayGo_90 z_c80 in_X6 tw_558 (by decide) rfl rfl (by decide) ?_
            refine r_iconst X dX6_mayGo_93 ?_
            refine r_iald X dX6_mayGo_94 z_c81 (by decide) ⟨by omega, by omega⟩ ?_
            refine r_eqi (hE.2.1.1 _ (by omega) (by omega)) ?_
            refine r_imul X dX6_mayGo_95 ?_
            refine r_istore4 X dX6_mayGo_96 ?_
            refine r_iconst X dX6_mayGo_98 ?_
            refine r_istore5 X dX6_mayGo_99 ?_
            have L2 : ∀ (fu : Nat) (m : Int), (vw V t - m) < (fu : Int) → 0 ≤ m → m ≤ vw V t → (∀ i, i < t → vw V i < m → ¬ vnear V p (gt i) (tk i) (gt t) (d : Int) < 2 * vc V p * V 2) → z_G pg l e (z_rm 2) s mm ([.ref (a 80), .int (zI p), .int (zI (vw V t))] : List Value).toArray below meth c 6 D κ a A 0 0 (MQ below (z_Qp D κ a A (fun z σ' => σ' = σ ∧ (z = 0 ∨ z = 1) ∧ (z = 1 ↔ vok V p gt t tk d))) ([.ref (a 80), .int (zI p), .int (zI (vw V t))] : List Value).toArray s 0 0 A) σ [some (.ref (a 80)), some (.int (zI p)), some (.int (zI (vw V t))), some (.int (zI (d : Int))), some (.int (zI (2 * vc V p * V 2))), some (.int (zI m))] 101 [] := by
              intro fu
              induction fu with
              | zero =>
                intro m hn h0 h1 hf2
                omega
              | succ fu ihL2 =>
                intro m hn h0 h1 hf2
                refine r_iload5 X dX6_mayGo_101 ?_
                refine r_iload2 X dX6_mayGo_103 ?_
                refine r_icmp_ge (tgt := 145) X dX6_mayGo_104 ⟨⟨by omega, by omega⟩, by omega, by omega⟩ (fun h104 => ?_) (fun h104 => ?_)
                · refine r_iconst X dX6_mayGo_145 ?_
                  exact r_zretp X M dX6_mayGo_146 (by omega) ⟨rfl, by omega, ⟨fun _ => ⟨hall, Or.inr ⟨h74, fun i hi => hf2 i hi (by have := vw_lt hi ht; omega)⟩⟩, fun _ => rfl⟩⟩
                · have hil := hE.ill (m := m) (by omega) (by omega)
                  refine r_aload0 X dX6_mayGo_107 ?_
                  refine r_iload5 X dX6_mayGo_108 ?_
                  refine r_callVi (n := 1) X (c_X6_isIll l X.2.2.1 _ _ ⟨by omega, by omega⟩ ⟨by omega, by omega⟩) dX6_mayGo_110 tw_711 tw_713 tw_23 tw_46 tw_714 z_c80 (by decide) rfl rfl (Nat.le_of_ble_eq_true rfl) ⟨by decide, by decide⟩ (by decide +kernel) rfl ?_
                  refine r_if_neB (tgt := 139) X dX6_mayGo_113 (fun h113 => ?_) (fun h113 => ?_)
                  · refine r_iinc5 X dX6_mayGo_139 ?_
                    refine r_goto (tgt := 101) X dX6_mayGo_142 (by decide) ?_
                    exact ihL2 (m + 1) (by omega) (by omega) (by omega) (fun i2 hi2 h2 => by
                      by_cases e2 : vw V i2 = m
                      · have q := (vw_in (V := V) (show i2 < vN V by omega)).2
                        rw [e2] at q
                        first
                        | (exfalso; omega)
                        | (have e3 : i2 = i := vw_inj (V := V) (by omega) (by omega) (by omega)
                           subst e3
                           rw [← hti]
                           omega)
                      · exact hf2 i2 hi2 (by omega))
                  · obtain ⟨i, hi, hiw⟩ := vw_before ht h0 h104 (by omega)
                    have htki := htk i hi
                    have hgti := hE.2.2.2.1 h45 i (by omega)
                    have hti : σ 92 m = tk i := by rw [← hiw]; exact htki.1
                    have hnr := vnear_in hE.1 (p := p) (f1 := gt i) (d1 := σ 92 m) (f2 := gt t) (d2 := (d : Int)) (by omega) hgti.2 (by omega) hgtt.2 (by omega) hE.2.2.2.2
                    refine r_aload0 X dX6_mayGo_116 ?_
                    refine r_iload1 X dX6_mayGo_117 ?_
                    refine r_iload5 X dX6_mayGo_118 ?_
                    refine r_aload0 X dX6_mayGo_120 ?_
                    refine r_get X 13 dX6_mayGo_121 z_c80 in_X6 tw_571 (by decide) rfl rfl (by decide) ?_
                    refine r_iload5 X dX6_mayGo_124 ?_
                    refine r_iald X dX6_mayGo_126 z_c92 (by decide) ⟨by omega, by omega⟩ ?_
                    refine r_iload2 X dX6_mayGo_127 ?_
                    refine r_iload3 X dX6_mayGo_128 ?_
                    refine r_callVi (n := 5) X (c_X6_nearest l X.2.2.1 _ p _ _ _ _ (gt i) (gt t) ⟨by omega, by omega⟩ ⟨by omega, by omega⟩ ⟨by omega, by omega⟩ ⟨by omega, by omega⟩ ⟨by omega, by omega⟩ hgti.2 hgtt.2 (by rw [← hiw]; exact hgti.1) hgtt.1 V hE.1 hE.2.1 hE.2.2.2.2) dX6_mayGo_129 tw_753 tw_755 tw_32 tw_46 tw_756 z_c80 (by decide) rfl rfl (Nat.le_of_ble_eq_true rfl) ⟨by decide, by decide⟩ (by decide +kernel) rfl ?_
                    refine r_iload4 X dX6_mayGo_132 ?_
                    refine r_icmp_ge (tgt := 139) X dX6_mayGo_134 ⟨⟨by omega, by omega⟩, by omega, by omega⟩ (fun h134 => ?_) (fun h134 => ?_)
                    · refine r_iinc5 X dX6_mayGo_139 ?_
                      refine r_goto (tgt := 101) X dX6_mayGo_142 (by decide) ?_
                      exact ihL2 (m + 1) (by omega) (by omega) (by omega) (fun i2 hi2 h2 => by
                        by_cases e2 : vw V i2 = m
                        · have q := (vw_in (V := V) (show i2 < vN V by omega)).2
                          rw [e2] at q
                          first
                          | (exfalso; omega)
                          | (have e3 : i2 = i := vw_inj (V := V) (by omega) (by omega) (by omega)
                             subst e3
                             rw [← hti]
                             omega)
                        · exact hf2 i2 hi2 (by omega))
                    · refine r_iconst X dX6_mayGo_137 ?_
                      exact r_zretp X M dX6_mayGo_138 (by omega) ⟨rfl, by omega, ⟨fun h => by omega, fun h => by rcases h.2 with q | q; exact absurd q h45; exact absurd (show vnear V p (gt i) (tk i) (gt t) (d : Int) < 2 * vc V p * V 2 by rw [← hti]; exact h134) (q.2 i hi)⟩⟩
            exact L2 8 0 (by omega) (by omega) (by omega) (fun i hi h => by have := (vw_in (V := V) (show i < vN V by omega)).1; omega)
          · refine r_iconst X dX6_mayGo_77 ?_
            exact r_zretp X M dX6_mayGo_78 (by omega) ⟨rfl, by omega, ⟨fun h => by omega, fun h => by rcases h.2 with q | q; exact absurd q h45; have q1 := q.1; omega⟩⟩
        · refine r_iconst X dX6_mayGo_48 ?_
          exact r_zretp X M dX6_mayGo_49 (by omega) ⟨rfl, by omega, ⟨fun _ => ⟨hall, Or.inl h45⟩, fun _ => rfl⟩⟩
      · have hil := hE.ill (m := m) (by omega) (by omega)
        refine r_aload0 X dX6_mayGo_16 ?_
        refine r_iload4 X dX6_mayGo_17 ?_
        refine r_callVi (n := 1) X (c_X6_isIll l X.2.2.1 _ _ ⟨by omega, by omega⟩ ⟨by omega, by omega⟩) dX6_mayGo_19 tw_711 tw_713 tw_23 tw_46 tw_714 z_c80 (by decide) rfl rfl (Nat.le_of_ble_eq_true rfl) ⟨by decide, by decide⟩ (by decide +kernel) rfl ?_
        refine r_if_neB (tgt := 38) X dX6_mayGo_22 (fun h22 => ?_) (fun h22 => ?_)
        · refine r_iinc4 X dX6_mayGo_38 ?_
          refine r_goto (tgt := 10) X dX6_mayGo_41 (by decide) ?_
          exact ihL (m + 1) (by omega) (by omega) (by omega) (fun i2 hi2 h2 => by
            by_cases e2 : vw V i2 = m
            · have q := (vw_in (V := V) (show i2 < vN V by omega)).2
              rw [e2] at q
              first
              | (exfalso; omega)
              | (have e3 : i2 = i := vw_inj (V := V) (by omega) (by omega) (by omega)
                 subst e3
                 exact h33)
            · exact hf i2 hi2 (by omega))
        · obtain ⟨i, hi, hiw⟩ := vw_before ht h0 h13 (by omega)
          have htki := htk i hi
          refine r_aload0 X dX6_mayGo_25 ?_
          refine r_get X 13 dX6_mayGo_26 z_c80 in_X6 tw_571 (by decide) rfl rfl (by decide) ?_
          refine r_iload4 X dX6_mayGo_29 ?_
          refine r_iald X dX6_mayGo_31 z_c92 (by decide) ⟨by omega, by omega⟩ ?_
          refine r_eqi (y := tk i) (by rw [← hiw]; exact (htk i hi).1) ?_
          refine r_iload3 X dX6_mayGo_32 ?_
          refine r_icmp_ne (tgt := 38) X dX6_mayGo_33 ⟨⟨by omega, by omega⟩, by omega, by omega⟩ (fun h33 => ?_) (fun h33 => ?_)
          · refine r_iinc4 X dX6_mayGo_38 ?_
            refine r_goto (tgt := 10) X dX6_mayGo_41 (by decide) ?_
            exact ihL (m + 1) (by omega) (by omega) (by omega) (fun i2 hi2 h2 => by
              by_cases e2 : vw V i2 = m
              · have q := (vw_in (V := V) (show i2 < vN V by omega)).2
                rw [e2] at q
                first
                | (exfalso; omega)
                | (have e3 : i2 = i := vw_inj (V := V) (by omega) (by omega) (by omega)
                   subst e3
                   exact h33)
              · exact hf i2 hi2 (by omega))
          · refine r_iconst X dX6_mayGo_36 ?_
            exact r_zretp X M dX6_mayGo_37 (by omega) ⟨rfl, by omega, ⟨fun h => by omega, fun h => absurd (show tk i = (d : Int) by omega) (h.1 i hi)⟩⟩
  exact L 8 0 (by omega) (by omega) (by omega) (fun i hi h => by have := (vw_in (V := V) (show i < vN V by omega)).1; omega)

