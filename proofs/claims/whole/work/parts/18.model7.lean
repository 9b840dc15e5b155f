def zIff (P Q : Prop) : Prop := P ↔ Q
theorem zIff.mp {P Q : Prop} (h : zIff P Q) : P → Q := Iff.mp h
theorem zIff.mpr {P Q : Prop} (h : zIff P Q) : Q → P := Iff.mpr h
/-- no solo, or some turn among the first m has it -/
def sQ (V : zV) (p d : Int) (tk : Nat → Int) (m : Int) : Prop := V (28 + (3 * (7 * p + d) + 2)) = 0 ∨ ∃ i, i < vN V ∧ vw V i < m ∧ tk i = d
def sP (V : zV) (p : Int) (tk : Nat → Int) (x : Int) : Prop := V (28 + (3 * (7 * p + x) + 2)) = 1 → ∃ i, i < vN V ∧ tk i = x
theorem sQ_0 {V : zV} {p d : Int} {tk : Nat → Int} (h : V (28 + (3 * (7 * p + d) + 2)) ≠ 0) : ¬ sQ V p d tk 0 := by
  rintro (q | ⟨i, hi, h2, _⟩)
  · exact h q
  · have := (vw_in hi).1
    omega
theorem sQ_up {V : zV} {p d m : Int} {tk : Nat → Int} (h : sQ V p d tk m) : sQ V p d tk (m + 1) := by
  rcases h with q | ⟨i, hi, q1, q2⟩
  · exact Or.inl q
  · exact Or.inr ⟨i, hi, by omega, q2⟩
theorem sQ_ill {V : zV} {p d m : Int} {tk : Nat → Int} (hi : V (6 + (2 * m + 1)) = 1) (h : sQ V p d tk (m + 1)) : sQ V p d tk m := by
  rcases h with q | ⟨i, hi2, q1, q2⟩
  · exact Or.inl q
  · refine Or.inr ⟨i, hi2, ?_, q2⟩
    by_cases e : vw V i = m
    · have := (vw_in hi2).2
      rw [e] at this
      omega
    · omega
theorem sQ_miss {V : zV} {p d m : Int} {tk : Nat → Int} {i : Nat} (hi : i < vN V) (hw : vw V i = m) (hn : tk i ≠ d) (h : sQ V p d tk (m + 1)) : sQ V p d tk m := by
  rcases h with q | ⟨j, hj, q1, q2⟩
  · exact Or.inl q
  · refine Or.inr ⟨j, hj, ?_, q2⟩
    by_cases e : vw V j = m
    · have e2 : j = i := vw_inj hj hi (e.trans hw.symm)
      rw [e2] at q2
      exact absurd q2 hn
    · omega
theorem sQ_end {V : zV} {p d : Int} {tk : Nat → Int} (h01 : V (28 + (3 * (7 * p + d) + 2)) = 0 ∨ V (28 + (3 * (7 * p + d) + 2)) = 1) : sQ V p d tk (V 0) ↔ sP V p tk d := by
  constructor
  · rintro (q | ⟨i, hi, _, e⟩) hs
    · omega
    · exact ⟨i, hi, e⟩
  · intro h
    by_cases e : V (28 + (3 * (7 * p + d) + 2)) = 0
    · exact Or.inl e
    · obtain ⟨i, hi, e2⟩ := h (by omega)
      exact Or.inr ⟨i, hi, by have := (vw_in hi).1; omega, e2⟩

set_option maxRecDepth 100000 in
set_option maxHeartbeats 4000000 in
theorem c_X6_areSolosGiven (l : Launch) {D : va_G} {κ : Nat → ClassId} {a : Nat → Nat} {A : Nat → Prop} (hA : z_aD a A) (σ : zSt) (p : Int) (tk gt : Nat → Int) (V : zV) (hE : mE σ V p gt) (htk : ∀ i, i < vN V → σ 92 (vw V i) = tk i ∧ 0 ≤ tk i ∧ tk i < 7) : z_Tp l D κ a A yX6_areSolosGiven cX6_areSolosGiven 6 (some .boolean) 1 [.ref (a 80), .int (zI p)] σ (fun z σ' => σ' = σ ∧ (z = 0 ∨ z = 1) ∧ (z = 1 ↔ vfin V p tk)) := by
  refine z_Tp_of (cc := cX6_areSolosGiven) (maxL := 6) (ret := (some .boolean)) (own := RX6) (lv0 := [some (.ref (a 80)), some (.int (zI p)), none, none, none, none]) hA (by decide) rfl (Nat.le_of_ble_eq_true rfl) rfl ?_
  intro pg e s mm below meth c X M
  have hv0 := hE.1.1.1
  have hp5 := hE.2.2.1
  have hnn := vn_in hE.1 (k := p) hp5
  refine r_iconst X dX6_areSolosGiven_0 ?_
  refine r_istore2 X dX6_areSolosGiven_1 ?_
  refine r_iconst X dX6_areSolosGiven_2 ?_
  refine r_istore3 X dX6_areSolosGiven_3 ?_
  have L : ∀ (fu : Nat) (d f : Int) (o4 o5 : Option Value), (vn V p - d) < (fu : Int) → 0 ≤ d → d ≤ vn V p → (f = 0 ∨ f = 1) → zIff (f = 1) (∀ x : Int, 0 ≤ x → x < d → sP V p tk x) → z_G pg l e (z_rm 1) s mm ([.ref (a 80), .int (zI p)] : List Value).toArray below meth c 6 D κ a A 0 0 (MQ below (z_Qp D κ a A (fun z σ' => σ' = σ ∧ (z = 0 ∨ z = 1) ∧ (z = 1 ↔ vfin V p tk))) ([.ref (a 80), .int (zI p)] : List Value).toArray s 0 0 A) σ [some (.ref (a 80)), some (.int (zI p)), some (.int (zI f)), some (.int (zI d)), o4, o5] 4 [] := by
    intro fu
    induction fu with
    | zero =>
      intro d f o4 o5 hn h0 h1 f01 hf
      omega
    | succ fu ihL =>
      intro d f o4 o5 hn h0 h1 f01 hf
      refine r_iload3 X dX6_areSolosGiven_4 ?_
      refine r_aload0 X dX6_areSolosGiven_5 ?_
      refine r_iload1 X dX6_areSolosGiven_6 ?_
      refine r_callVi (n := 1) X (c_X6_dotMany l X.2.2.1 _ _ ⟨by omega, by omega⟩) dX6_areSolosGiven_7 tw_662 tw_664 tw_20 tw_46 tw_665 z_c80 (by decide) rfl rfl (Nat.le_of_ble_eq_true rfl) ⟨by decide, by decide⟩ (by decide +kernel) rfl ?_
      refine r_eqi (y := vn V p) (hE.2.1.2.2.1 _ (by omega) (by omega)) ?_
      refine r_icmp_ge (tgt := 111) X dX6_areSolosGiven_10 ⟨⟨by omega, by omega⟩, by omega, by omega⟩ (fun h10 => ?_) (fun h10 => ?_)
      · have hret : σ = σ ∧ (f = 0 ∨ f = 1) ∧ (f = 1 ↔ vfin V p tk) := by
          refine ⟨rfl, f01, ⟨fun h d hd hs => hf.mp h (d : Int) (by omega) (by omega) hs, fun h => hf.mpr (fun x x0 x1 hs => ?_)⟩⟩
          have h2 := h x.toNat (by omega) (by unfold vso; rw [show ((x.toNat : Nat) : Int) = x by omega]; exact hs)
          rwa [show ((x.toNat : Nat) : Int) = x by omega] at h2
        refine r_iload2 X dX6_areSolosGiven_111 ?_
        exact r_zretp X M dX6_areSolosGiven_112 f01 hret
      · have hso := hE.1.2.2.2.2.2 (7 * p + d) (by omega) (by omega)
        rw [show 30 + 3 * (7 * p + d) = 28 + (3 * (7 * p + d) + 2) by omega] at hso
        refine r_aload0 X dX6_areSolosGiven_13 ?_
        refine r_get X 3 dX6_areSolosGiven_14 z_c80 in_X6 tw_561 (by decide) rfl rfl (by decide) ?_
        refine r_iconst X dX6_areSolosGiven_17 ?_
        refine r_bipush X dX6_areSolosGiven_18 (by decide +kernel) ?_
        refine r_iload1 X dX6_areSolosGiven_20 ?_
        refine r_imul X dX6_areSolosGiven_21 ?_
        refine r_iload3 X dX6_areSolosGiven_22 ?_
        refine r_iadd X dX6_areSolosGiven_23 ?_
        refine r_imul X dX6_areSolosGiven_24 ?_
        refine r_iconst X dX6_areSolosGiven_25 ?_
        refine r_iadd X dX6_areSolosGiven_26 ?_
        refine r_iald X dX6_areSolosGiven_27 z_c84 (by decide) ⟨by omega, by omega⟩ ?_
        refine r_eqi (hE.2.1.2.2.2 _ (by omega) (by omega)) ?_
        refine r_if_ne (tgt := 35) X dX6_areSolosGiven_28 ⟨by omega, by omega⟩ (fun h28 => ?_) (fun h28 => ?_)
        · refine r_iconst X dX6_areSolosGiven_35 ?_
          refine r_istore4 X dX6_areSolosGiven_36 ?_
          refine r_iconst X dX6_areSolosGiven_38 ?_
          refine r_istore5 X dX6_areSolosGiven_39 ?_
          have L2 : ∀ (fu : Nat) (m g : Int), (V 0 - m) < (fu : Int) → 0 ≤ m → m ≤ V 0 → (g = 0 ∨ g = 1) → zIff (g = 1) (sQ V p d tk m) → z_G pg l e (z_rm 1) s mm ([.ref (a 80), .int (zI p)] : List Value).toArray below meth c 6 D κ a A 0 0 (MQ below (z_Qp D κ a A (fun z σ' => σ' = σ ∧ (z = 0 ∨ z = 1) ∧ (z = 1 ↔ vfin V p tk))) ([.ref (a 80), .int (zI p)] : List Value).toArray s 0 0 A) σ [some (.ref (a 80)), some (.int (zI p)), some (.int (zI f)), some (.int (zI d)), some (.int (zI g)), some (.int (zI m))] 41 [] := by
            intro fu
            induction fu with
            | zero =>
              intro m g hn m0 m1 g01 hg
              omega
            | succ fu ihL2 =>
              intro m g hn m0 m1 g01 hg
              refine r_iload5 X dX6_areSolosGiven_41 ?_
              refine r_aload0 X dX6_areSolosGiven_43 ?_
              refine r_get X 0 dX6_areSolosGiven_44 z_c80 in_X6 tw_558 (by decide) rfl rfl (by decide) ?_
              refine r_iconst X dX6_areSolosGiven_47 ?_
              refine r_iald X dX6_areSolosGiven_48 z_c81 (by decide) ⟨by omega, by omega⟩ ?_
              refine r_eqi (hE.2.1.1 0 (by omega) (by omega)) ?_
              refine r_icmp_ge (tgt := 90) X dX6_areSolosGiven_49 ⟨⟨by omega, by omega⟩, by omega, by omega⟩ (fun h49 => ?_) (fun h49 => ?_)
              · have hm0 : m = V 0 := by omega
                subst hm0
                have hg2 : zIff (g = 1) (sP V p tk d) := Iff.trans hg (sQ_end (by omega))
                refine r_iload2 X dX6_areSolosGiven_90 ?_
                refine r_if_eq (tgt := 103) X dX6_areSolosGiven_91 ⟨by omega, by omega⟩ (fun h91 => ?_) (fun h91 => ?_)
                · refine r_iconst X dX6_areSolosGiven_103 ?_
                  refine r_istore2 X dX6_areSolosGiven_104 ?_
                  refine r_iinc3 X dX6_areSolosGiven_105 ?_
                  refine r_goto (tgt := 4) X dX6_areSolosGiven_108 (by decide) ?_
                  first
                  | exact ihL (d + 1) 1 _ _ (by omega) (by omega) (by omega) (by omega) (Iff.intro (fun _ => (z_all_s h0).mpr ⟨hf.mp (by omega), hg2.mp (by omega)⟩) (fun _ => rfl))
                  | exact ihL (d + 1) 0 _ _ (by omega) (by omega) (by omega) (by omega) (Iff.intro (fun h => by omega) (fun h => absurd (hf.mpr ((z_all_s h0).mp h).1) (by omega)))
                  | exact ihL (d + 1) 0 _ _ (by omega) (by omega) (by omega) (by omega) (Iff.intro (fun h => by omega) (fun h => absurd (hg2.mpr ((z_all_s h0).mp h).2) (by omega)))
                · refine r_iload4 X dX6_areSolosGiven_94 ?_
                  refine r_if_eq (tgt := 103) X dX6_areSolosGiven_96 ⟨by omega, by omega⟩ (fun h96 => ?_) (fun h96 => ?_)
                  · refine r_iconst X dX6_areSolosGiven_103 ?_
                    refine r_istore2 X dX6_areSolosGiven_104 ?_
                    refine r_iinc3 X dX6_areSolosGiven_105 ?_
                    refine r_goto (tgt := 4) X dX6_areSolosGiven_108 (by decide) ?_
                    first
                    | exact ihL (d + 1) 1 _ _ (by omega) (by omega) (by omega) (by omega) (Iff.intro (fun _ => (z_all_s h0).mpr ⟨hf.mp (by omega), hg2.mp (by omega)⟩) (fun _ => rfl))
                    | exact ihL (d + 1) 0 _ _ (by omega) (by omega) (by omega) (by omega) (Iff.intro (fun h => by omega) (fun h => absurd (hf.mpr ((z_all_s h0).mp h).1) (by omega)))
                    | exact ihL (d + 1) 0 _ _ (by omega) (by omega) (by omega) (by omega) (Iff.intro (fun h => by omega) (fun h => absurd (hg2.mpr ((z_all_s h0).mp h).2) (by omega)))
                  · refine r_iconst X dX6_areSolosGiven_99 ?_
                    refine r_goto (tgt := 104) X dX6_areSolosGiven_100 (by decide) ?_
                    refine r_istore2 X dX6_areSolosGiven_104 ?_
                    refine r_iinc3 X dX6_areSolosGiven_105 ?_
                    refine r_goto (tgt := 4) X dX6_areSolosGiven_108 (by decide) ?_
                    first
                    | exact ihL (d + 1) 1 _ _ (by omega) (by omega) (by omega) (by omega) (Iff.intro (fun _ => (z_all_s h0).mpr ⟨hf.mp (by omega), hg2.mp (by omega)⟩) (fun _ => rfl))
                    | exact ihL (d + 1) 0 _ _ (by omega) (by omega) (by omega) (by omega) (Iff.intro (fun h => by omega) (fun h => absurd (hf.mpr ((z_all_s h0).mp h).1) (by omega)))
                    | exact ihL (d + 1) 0 _ _ (by omega) (by omega) (by omega) (by omega) (Iff.intro (fun h => by omega) (fun h => absurd (hg2.mpr ((z_all_s h0).mp h).2) (by omega)))
              · have hil := hE.ill (m := m) (by omega) (by omega)
                refine r_iload4 X dX6_areSolosGiven_52 ?_
                refine r_if_ne (tgt := 77) X dX6_areSolosGiven_54 ⟨by omega, by omega⟩ (fun h54 => ?_) (fun h54 => ?_)
                · refine r_iconst X dX6_areSolosGiven_77 ?_
                  refine r_goto (tgt := 82) X dX6_areSolosGiven_78 (by decide) ?_
                  refine r_istore4 X dX6_areSolosGiven_82 ?_
                  refine r_iinc5 X dX6_areSolosGiven_84 ?_
                  refine r_goto (tgt := 41) X dX6_areSolosGiven_87 (by decide) ?_
                  first
                  | exact ihL2 (m + 1) 1 (by omega) (by omega) (by omega) (by omega) (Iff.intro (fun _ => sQ_up (hg.mp (by omega))) (fun _ => rfl))
                  | exact ihL2 (m + 1) 1 (by omega) (by omega) (by omega) (by omega) (Iff.intro (fun _ => Or.inr ⟨i, hi, by omega, by omega⟩) (fun _ => rfl))
                  | exact ihL2 (m + 1) 0 (by omega) (by omega) (by omega) (by omega) (Iff.intro (fun h => by omega) (fun h => absurd (hg.mpr (sQ_ill (by omega) h)) (by omega)))
                  | exact ihL2 (m + 1) 0 (by omega) (by omega) (by omega) (by omega) (Iff.intro (fun h => by omega) (fun h => absurd (hg.mpr (sQ_miss hi hiw h74 h)) (by omega)))
                · refine r_aload0 X dX6_areSolosGiven_57 ?_
                  refine r_iload5 X dX6_areSolosGiven_58 ?_
                  refine r_callVi (n := 1) X (c_X6_isIll l X.2.2.1 _ _ ⟨by omega, by omega⟩ ⟨by omega, by omega⟩) dX6_areSolosGiven_60 tw_711 tw_713 tw_23 tw_46 tw_714 z_c80 (by decide) rfl rfl (Nat.le_of_ble_eq_true rfl) ⟨by decide, by decide⟩ (by decide +kernel) rfl ?_
                  refine r_if_neB (tgt := 81) X dX6_areSolosGiven_63 (fun h63 => ?_) (fun h63 => ?_)
                  · refine r_iconst X dX6_areSolosGiven_81 ?_
                    refine r_istore4 X dX6_areSolosGiven_82 ?_
                    refine r_iinc5 X dX6_areSolosGiven_84 ?_
                    refine r_goto (tgt := 41) X dX6_areSolosGiven_87 (by decide) ?_
                    first
                    | exact ihL2 (m + 1) 1 (by omega) (by omega) (by omega) (by omega) (Iff.intro (fun _ => sQ_up (hg.mp (by omega))) (fun _ => rfl))
                    | exact ihL2 (m + 1) 1 (by omega) (by omega) (by omega) (by omega) (Iff.intro (fun _ => Or.inr ⟨i, hi, by omega, by omega⟩) (fun _ => rfl))
                    | exact ihL2 (m + 1) 0 (by omega) (by omega) (by omega) (by omega) (Iff.intro (fun h => by omega) (fun h => absurd (hg.mpr (sQ_ill (by omega) h)) (by omega)))
                    | exact ihL2 (m + 1) 0 (by omega) (by omega) (by omega) (by omega) (Iff.intro (fun h => by omega) (fun h => absurd (hg.mpr (sQ_miss hi hiw h74 h)) (by omega)))
                  · obtain ⟨i, hi, hiw⟩ := vw_ex (V := V) (m := m) (by omega) (by omega) (by omega)
                    have htki := htk i hi
                    refine r_aload0 X dX6_areSolosGiven_66 ?_
                    refine r_get X 13 dX6_areSolosGiven_67 z_c80 in_X6 tw_571 (by decide) rfl rfl (by decide) ?_
                    refine r_iload5 X dX6_areSolosGiven_70 ?_
                    refine r_iald X dX6_areSolosGiven_72 z_c92 (by decide) ⟨by omega, by omega⟩ ?_
                    refine r_eqi (y := tk i) (by rw [← hiw]; exact htki.1) ?_
                    refine r_iload3 X dX6_areSolosGiven_73 ?_
                    refine r_icmp_ne (tgt := 81) X dX6_areSolosGiven_74 ⟨⟨by omega, by omega⟩, by omega, by omega⟩ (fun h74 => ?_) (fun h74 => ?_)
                    · refine r_iconst X dX6_areSolosGiven_81 ?_
                      refine r_istore4 X dX6_areSolosGiven_82 ?_
                      refine r_iinc5 X dX6_areSolosGiven_84 ?_
                      refine r_goto (tgt := 41) X dX6_areSolosGiven_87 (by decide) ?_
                      first
                      | exact ihL2 (m + 1) 1 (by omega) (by omega) (by omega) (by omega) (Iff.intro (fun _ => sQ_up (hg.mp (by omega))) (fun _ => rfl))
                      | exact ihL2 (m + 1) 1 (by omega) (by omega) (by omega) (by omega) (Iff.intro (fun _ => Or.inr ⟨i, hi, by omega, by omega⟩) (fun _ => rfl))
                      | exact ihL2 (m + 1) 0 (by omega) (by omega) (by omega) (by omega) (Iff.intro (fun h => by omega) (fun h => absurd (hg.mpr (sQ_ill (by omega) h)) (by omega)))
                      | exact ihL2 (m + 1) 0 (by omega) (by omega) (by omega) (by omega) (Iff.intro (fun h => by omega) (fun h => absurd (hg.mpr (sQ_miss hi hiw h74 h)) (by omega)))
                    · refine r_iconst X dX6_areSolosGiven_77 ?_
                      refine r_goto (tgt := 82) X dX6_areSolosGiven_78 (by decide) ?_
                      refine r_istore4 X dX6_areSolosGiven_82 ?_
                      refine r_iinc5 X dX6_areSolosGiven_84 ?_
                      refine r_goto (tgt := 41) X dX6_areSolosGiven_87 (by decide) ?_
                      first
                      | exact ihL2 (m + 1) 1 (by omega) (by omega) (by omega) (by omega) (Iff.intro (fun _ => sQ_up (hg.mp (by omega))) (fun _ => rfl))
                      | exact ihL2 (m + 1) 1 (by omega) (by omega) (by omega) (by omega) (Iff.intro (fun _ => Or.inr ⟨i, hi, by omega, by omega⟩) (fun _ => rfl))
                      | exact ihL2 (m + 1) 0 (by omega) (by omega) (by omega) (by omega) (Iff.intro (fun h => by omega) (fun h => absurd (hg.mpr (sQ_ill (by omega) h)) (by omega)))
                      | exact ihL2 (m + 1) 0 (by omega) (by omega) (by omega) (by omega) (Iff.intro (fun h => by omega) (fun h => absurd (hg.mpr (sQ_miss hi hiw h74 h)) (by omega)))
          exact L2 8 0 _ (by omega) (by omega) (by omega) (by omega) (by first | exact Iff.intro (fun _ => Or.inl (by omega)) (fun _ => rfl) | exact Iff.intro (fun h => by omega) (fun h => absurd h (sQ_0 (by omega))))
        · refine r_iconst X dX6_areSolosGiven_31 ?_
          refine r_goto (tgt := 36) X dX6_areSolosGiven_32 (by decide) ?_
          refine r_istore4 X dX6_areSolosGiven_36 ?_
          refine r_iconst X dX6_areSolosGiven_38 ?_
          refine r_istore5 X dX6_areSolosGiven_39 ?_
          have L2 : ∀ (fu : Nat) (m g : Int), (V 0 - m) < (fu : Int) → 0 ≤ m → m ≤ V 0 → (g = 0 ∨ g = 1) → zIff (g = 1) (sQ V p d tk m) → z_G pg l e (z_rm 1) s mm ([.ref (a 80), .int (zI p)] : List Value).toArray below meth c 6 D κ a A 0 0 (MQ below (z_Qp D κ a A (fun z σ' => σ' = σ ∧ (z = 0 ∨ z = 1) ∧ (z = 1 ↔ vfin V p tk))) ([.ref (a 80), .int (zI p)] : List Value).toArray s 0 0 A) σ [some (.ref (a 80)), some (.int (zI p)), some (.int (zI f)), some (.int (zI d)), some (.int (zI g)), some (.int (zI m))] 41 [] := by
            intro fu
            induction fu with
            | zero =>
              intro m g hn m0 m1 g01 hg
              omega
            | succ fu ihL2 =>
              intro m g hn m0 m1 g01 hg
              refine r_iload5 X dX6_areSolosGiven_41 ?_
              refine r_aload0 X dX6_areSolosGiven_43 ?_
              refine r_get X 0 dX6_areSolosGiven_44 z_c80 in_X6 tw_558 (by decide) rfl rfl (by decide) ?_
              refine r_iconst X dX6_areSolosGiven_47 ?_
              refine r_iald X dX6_areSolosGiven_48 z_c81 (by decide) ⟨by omega, by omega⟩ ?_
              refine r_eqi (hE.2.1.1 0 (by omega) (by omega)) ?_
              refine r_icmp_ge (tgt := 90) X dX6_areSolosGiven_49 ⟨⟨by omega, by omega⟩, by omega, by omega⟩ (fun h49 => ?_) (fun h49 => ?_)
              · have hm0 : m = V 0 := by omega
                subst hm0
                have hg2 : zIff (g = 1) (sP V p tk d) := Iff.trans hg (sQ_end (by omega))
                refine r_iload2 X dX6_areSolosGiven_90 ?_
                refine r_if_eq (tgt := 103) X dX6_areSolosGiven_91 ⟨by omega, by omega⟩ (fun h91 => ?_) (fun h91 => ?_)
                · refine r_iconst X dX6_areSolosGiven_103 ?_
                  refine r_istore2 X dX6_areSolosGiven_104 ?_
                  refine r_iinc3 X dX6_areSolosGiven_105 ?_
                  refine r_goto (tgt := 4) X dX6_areSolosGiven_108 (by decide) ?_
                  first
                  | exact ihL (d + 1) 1 _ _ (by omega) (by omega) (by omega) (by omega) (Iff.intro (fun _ => (z_all_s h0).mpr ⟨hf.mp (by omega), hg2.mp (by omega)⟩) (fun _ => rfl))
                  | exact ihL (d + 1) 0 _ _ (by omega) (by omega) (by omega) (by omega) (Iff.intro (fun h => by omega) (fun h => absurd (hf.mpr ((z_all_s h0).mp h).1) (by omega)))
                  | exact ihL (d + 1) 0 _ _ (by omega) (by omega) (by omega) (by omega) (Iff.intro (fun h => by omega) (fun h => absurd (hg2.mpr ((z_all_s h0).mp h).2) (by omega)))
                · refine r_iload4 X dX6_areSolosGiven_94 ?_
                  refine r_if_eq (tgt := 103) X dX6_areSolosGiven_96 ⟨by omega, by omega⟩ (fun h96 => ?_) (fun h96 => ?_)
                  · refine r_iconst X dX6_areSolosGiven_103 ?_
                    refine r_istore2 X dX6_areSolosGiven_104 ?_
                    refine r_iinc3 X dX6_areSolosGiven_105 ?_
                    refine r_goto (tgt := 4) X dX6_areSolosGiven_108 (by decide) ?_
                    first
                    | exact ihL (d + 1) 1 _ _ (by omega) (by omega) (by omega) (by omega) (Iff.intro (fun _ => (z_all_s h0).mpr ⟨hf.mp (by omega), hg2.mp (by omega)⟩) (fun _ => rfl))
                    | exact ihL (d + 1) 0 _ _ (by omega) (by omega) (by omega) (by omega) (Iff.intro (fun h => by omega) (fun h => absurd (hf.mpr ((z_all_s h0).mp h).1) (by omega)))
                    | exact ihL (d + 1) 0 _ _ (by omega) (by omega) (by omega) (by omega) (Iff.intro (fun h => by omega) (fun h => absurd (hg2.mpr ((z_all_s h0).mp h).2) (by omega)))
                  · refine r_iconst X dX6_areSolosGiven_99 ?_
                    refine r_goto (tgt := 104) X dX6_areSolosGiven_100 (by decide) ?_
                    refine r_istore2 X dX6_areSolosGiven_104 ?_
                    refine r_iinc3 X dX6_areSolosGiven_105 ?_
                    refine r_goto (tgt := 4) X dX6_areSolosGiven_108 (by decide) ?_
                    first
                    | exact ihL (d + 1) 1 _ _ (by omega) (by omega) (by omega) (by omega) (Iff.intro (fun _ => (z_all_s h0).mpr ⟨hf.mp (by omega), hg2.mp (by omega)⟩) (fun _ => rfl))
                    | exact ihL (d + 1) 0 _ _ (by omega) (by omega) (by omega) (by omega) (Iff.intro (fun h => by omega) (fun h => absurd (hf.mpr ((z_all_s h0).mp h).1) (by omega)))
                    | exact ihL (d + 1) 0 _ _ (by omega) (by omega) (by omega) (by omega) (Iff.intro (fun h => by omega) (fun h => absurd (hg2.mpr ((z_all_s h0).mp h).2) (by omega)))
              · have hil := hE.ill (m := m) (by omega) (by omega)
                refine r_iload4 X dX6_areSolosGiven_52 ?_
                refine r_if_ne (tgt := 77) X dX6_areSolosGiven_54 ⟨by omega, by omega⟩ (fun h54 => ?_) (fun h54 => ?_)
                · refine r_iconst X dX6_areSolosGiven_77 ?_
                  refine r_goto (tgt := 82) X dX6_areSolosGiven_78 (by decide) ?_
                  refine r_istore4 X dX6_areSolosGiven_82 ?_
                  refine r_iinc5 X dX6_areSolosGiven_84 ?_
                  refine r_goto (tgt := 41) X dX6_areSolosGiven_87 (by decide) ?_
                  first
                  | exact ihL2 (m + 1) 1 (by omega) (by omega) (by omega) (by omega) (Iff.intro (fun _ => sQ_up (hg.mp (by omega))) (fun _ => rfl))
                  | exact ihL2 (m + 1) 1 (by omega) (by omega) (by omega) (by omega) (Iff.intro (fun _ => Or.inr ⟨i, hi, by omega, by omega⟩) (fun _ => rfl))
                  | exact ihL2 (m + 1) 0 (by omega) (by omega) (by omega) (by omega) (Iff.intro (fun h => by omega) (fun h => absurd (hg.mpr (sQ_ill (by omega) h)) (by omega)))
                  | exact ihL2 (m + 1) 0 (by omega) (by omega) (by omega) (by omega) (Iff.intro (fun h => by omega) (fun h => absurd (hg.mpr (sQ_miss hi hiw h74 h)) (by omega)))
                · refine r_aload0 X dX6_areSolosGiven_57 ?_
                  refine r_iload5 X dX6_areSolosGiven_58 ?_
                  refine r_callVi (n := 1) X (c_X6_isIll l X.2.2.1 _ _ ⟨by omega, by omega⟩ ⟨by omega, by omega⟩) dX6_areSolosGiven_60 tw_711 tw_713 tw_23 tw_46 tw_714 z_c80 (by decide) rfl rfl (Nat.le_of_ble_eq_true rfl) ⟨by decide, by decide⟩ (by decide +kernel) rfl ?_
                  refine r_if_neB (tgt := 81) X dX6_areSolosGiven_63 (fun h63 => ?_) (fun h63 => ?_)
                  · refine r_iconst X dX6_areSolosGiven_81 ?_
                    refine r_istore4 X dX6_areSolosGiven_82 ?_
                    refine r_iinc5 X dX6_areSolosGiven_84 ?_
                    refine r_goto (tgt := 41) X dX6_areSolosGiven_87 (by decide) ?_
                    first
                    | exact ihL2 (m + 1) 1 (by omega) (by omega) (by omega) (by omega) (Iff.intro (fun _ => sQ_up (hg.mp (by omega))) (fun _ => rfl))
                    | exact ihL2 (m + 1) 1 (by omega) (by omega) (by omega) (by omega) (Iff.intro (fun _ => Or.inr ⟨i, hi, by omega, by omega⟩) (fun _ => rfl))
                    | exact ihL2 (m + 1) 0 (by omega) (by omega) (by omega) (by omega) (Iff.intro (fun h => by omega) (fun h => absurd (hg.mpr (sQ_ill (by omega) h)) (by omega)))
                    | exact ihL2 (m + 1) 0 (by omega) (by omega) (by omega) (by omega) (Iff.intro (fun h => by omega) (fun h => absurd (hg.mpr (sQ_miss hi hiw h74 h)) (by omega)))
                  · obtain ⟨i, hi, hiw⟩ := vw_ex (V := V) (m := m) (by omega) (by omega) (by omega)
                    have htki := htk i hi
                    refine r_aload0 X dX6_areSolosGiven_66 ?_
                    refine r_get X 13 dX6_areSolosGiven_67 z_c80 in_X6 tw_571 (by decide) rfl rfl (by decide) ?_
                    refine r_iload5 X dX6_areSolosGiven_70 ?_
                    refine r_iald X dX6_areSolosGiven_72 z_c92 (by decide) ⟨by omega, by omega⟩ ?_
                    refine r_eqi (y := tk i) (by rw [← hiw]; exact htki.1) ?_
                    refine r_iload3 X dX6_areSolosGiven_73 ?_
                    refine r_icmp_ne (tgt := 81) X dX6_areSolosGiven_74 ⟨⟨by omega, by omega⟩, by omega, by omega⟩ (fun h74 => ?_) (fun h74 => ?_)
                    · refine r_iconst X dX6_areSolosGiven_81 ?_
                      refine r_istore4 X dX6_areSolosGiven_82 ?_
                      refine r_iinc5 X dX6_areSolosGiven_84 ?_
                      refine r_goto (tgt := 41) X dX6_areSolosGiven_87 (by decide) ?_
                      first
                      | exact ihL2 (m + 1) 1 (by omega) (by omega) (by omega) (by omega) (Iff.intro (fun _ => sQ_up (hg.mp (by omega))) (fun _ => rfl))
                      | exact ihL2 (m + 1) 1 (by omega) (by omega) (by omega) (by omega) (Iff.intro (fun _ => Or.inr ⟨i, hi, by omega, by omega⟩) (fun _ => rfl))
                      | exact ihL2 (m + 1) 0 (by omega) (by omega) (by omega) (by omega) (Iff.intro (fun h => by omega) (fun h => absurd (hg.mpr (sQ_ill (by omega) h)) (by omega)))
                      | exact ihL2 (m + 1) 0 (by omega) (by omega) (by omega) (by omega) (Iff.intro (fun h => by omega) (fun h => absurd (hg.mpr (sQ_miss hi hiw h74 h)) (by omega)))
                    · refine r_iconst X dX6_areSolosGiven_77 ?_
                      refine r_goto (tgt := 82) X dX6_areSolosGiven_78 (by decide) ?_
                      refine r_istore4 X dX6_areSolosGiven_82 ?_
                      refine r_iinc5 X dX6_areSolosGiven_84 ?_
                      refine r_goto (tgt := 41) X dX6_areSolosGiven_87 (by decide) ?_
                      first
                      | exact ihL2 (m + 1) 1 (by omega) (by omega) (by omega) (by omega) (Iff.intro (fun _ => sQ_up (hg.mp (by omega))) (fun _ => rfl))
                      | exact ihL2 (m + 1) 1 (by omega) (by omega) (by omega) (by omega) (Iff.intro (fun _ => Or.inr ⟨i, hi, by omega, by omega⟩) (fun _ => rfl))
                      | exact ihL2 (m + 1) 0 (by omega) (by omega) (by omega) (by omega) (Iff.intro (fun h => by omega) (fun h => absurd (hg.mpr (sQ_ill (by omega) h)) (by omega)))
                      | exact ihL2 (m + 1) 0 (by omega) (by omega) (by omega) (by omega) (Iff.intro (fun h => by omega) (fun h => absurd (hg.mpr (sQ_miss hi hiw h74 h)) (by omega)))
          exact L2 8 0 _ (by omega) (by omega) (by omega) (by omega) (by first | exact Iff.intro (fun _ => Or.inl (by omega)) (fun _ => rfl) | exact Iff.intro (fun h => by omega) (fun h => absurd h (sQ_0 (by omega))))
  exact L 8 0 1 none none (by omega) (by omega) (by omega) (by omega) (Iff.intro (fun _ x _ _ => by omega) (fun _ => rfl))

/-- the greatest, and the sum, of the steps of the turns ahead of t -/
noncomputable def cg (st : Nat → Nat → Int) (tk : Nat → Int) : Nat → Int
  | 0 => 0
  | t + 1 => max (cg st tk t) (st t (tk t).toNat)
noncomputable def cs (st : Nat → Nat → Int) (tk : Nat → Int) : Nat → Int
  | 0 => 0
  | t + 1 => cs st tk t + st t (tk t).toNat
theorem cg_c {st : Nat → Nat → Int} {tk tk' : Nat → Int} : ∀ (t : Nat), (∀ i, i < t → tk i = tk' i) → cg st tk t = cg st tk' t ∧ cs st tk t = cs st tk' t
  | 0, _ => ⟨rfl, rfl⟩
  | t + 1, h => by
    have ih := cg_c (st := st) t (fun i hi => h i (by omega))
    unfold cg cs
    rw [ih.1, ih.2, h t (by omega)]
    exact ⟨rfl, rfl⟩
theorem cg_in {V : zV} (hV : v_ok V) {p : Int} {gt tk : Nat → Int} (hp : 0 ≤ p ∧ p < 5) (hg : p ≠ 0 → ∀ t, t < vN V → 0 ≤ gt t ∧ gt t < 7) : ∀ (t : Nat), t ≤ vN V → (∀ i, i < t → 0 ≤ tk i ∧ tk i < 7) → (0 ≤ cg (vst V p gt) tk t ∧ cg (vst V p gt) tk t ≤ 40) ∧ 0 ≤ cs (vst V p gt) tk t ∧ cs (vst V p gt) tk t ≤ 40 * (t : Int)
  | 0, _, _ => by unfold cg cs; omega
  | t + 1, ht, h => by
    have ih := cg_in hV hp hg t (by omega) (fun i hi => h i (by omega))
    have h1 := h t (by omega)
    have h2 := vst_in hV hp (gt := gt) (t := t) (d := (tk t).toNat) (fun q => hg q t (by omega)) (by omega)
    unfold cg cs
    omega
theorem cg_p0 {V : zV} {gt tk : Nat → Int} : ∀ t : Nat, cg (vst V 0 gt) tk t = 0 ∧ cs (vst V 0 gt) tk t = 0
  | 0 => ⟨rfl, rfl⟩
  | t + 1 => by
    have ih := cg_p0 (V := V) (gt := gt) (tk := tk) t
    unfold cg cs
    rw [ih.1, ih.2]
    unfold vst
    simp
/-- the model holds the setting c of picture p -/
def AccM (σ : zSt) (V : zV) (p : Int) (c : zAcc) : Prop := σ 89 p = c.1 ∧ vgood V p c ∧ (c.1 = 1 → σ 90 p = c.2.1 ∧ σ 91 p = c.2.2.1 ∧ ∀ t, t < vN V → σ 88 (6 * p + vw V t) = c.2.2.2 t)
def zFA (σ σ' : zSt) (p : Int) : Prop := (∀ c : Nat, c ≠ 88 → c ≠ 89 → c ≠ 90 → c ≠ 91 → σ' c = σ c) ∧ (∀ x : Int, x ≠ p → σ' 89 x = σ 89 x ∧ σ' 90 x = σ 90 x ∧ σ' 91 x = σ 91 x) ∧ (∀ j : Int, j < 6 * p ∨ 6 * p + 6 ≤ j → σ' 88 j = σ 88 j)
theorem zFA.refl (σ : zSt) (p : Int) : zFA σ σ p := ⟨fun _ _ _ _ _ => rfl, fun _ _ => ⟨rfl, rfl, rfl⟩, fun _ _ => rfl⟩
theorem zFA.trans {σ σ1 σ2 : zSt} {p : Int} (h : zFA σ σ1 p) (h2 : zFA σ1 σ2 p) : zFA σ σ2 p := ⟨fun c a b d e => (h2.1 c a b d e).trans (h.1 c a b d e), fun x hx => ⟨(h2.2.1 x hx).1.trans (h.2.1 x hx).1, (h2.2.1 x hx).2.1.trans (h.2.1 x hx).2.1, (h2.2.1 x hx).2.2.trans (h.2.1 x hx).2.2⟩, fun j hj => (h2.2.2 j hj).trans (h.2.2 j hj)⟩

theorem cp_step {σ σ1 : zSt} {p m : Int} (h : ∀ j : Int, 0 ≤ j → j < m → σ1 88 (6 * p + j) = σ 92 j) : ∀ j : Int, 0 ≤ j → j < m + 1 → z_up σ1 88 (6 * p + m) (σ 92 m) 88 (6 * p + j) = σ 92 j := by
  intro j j0 j1
  by_cases e : j = m
  · rw [e, z_up_s]
  · rw [z_up_j (by omega)]
    exact h j j0 (by omega)

set_option maxRecDepth 100000 in
set_option maxHeartbeats 4000000 in
theorem c_X6_takes (l : Launch) {D : va_G} {κ : Nat → ClassId} {a : Nat → Nat} {A : Nat → Prop} (hA : z_aD a A) (σ : zSt) (p : Int) (tk gt : Nat → Int) (g s0 : Int) (c0 : zAcc) (V : zV) (hE : mE σ V p gt) (htk : ∀ i, i < vN V → σ 92 (vw V i) = tk i ∧ 0 ≤ tk i ∧ tk i < 7) (htn : ∀ i, i < vN V → 0 ≤ tk i ∧ tk i < vn V p) (hAc : AccM σ V p c0) (hg : g = cg (vst V p gt) tk (vN V)) (hs : s0 = cs (vst V p gt) tk (vN V)) : z_Tq l D κ a A yX6_takes cX6_takes 6 none 3 [.ref (a 80), .int (zI p)] σ (fun σ' => AccM σ' V p (cIf (vfin V p tk ∧ better g s0 c0) (1, g, s0, tk) c0) ∧ zFA σ σ' p) := by
  refine z_Tq_of (cc := cX6_takes) (maxL := 6) (ret := none) (own := RX6) (lv0 := [some (.ref (a 80)), some (.int (zI p)), none, none, none, none]) hA (by decide) rfl (Nat.le_of_ble_eq_true rfl) rfl ?_
  intro pg e s mm below meth c X M
  have hv0 := hE.1.1.1
  have hp5 := hE.2.2.1
  have hgd := hAc.2.1.2
  have hgf := hAc.2.1.1
  have hr9 := cg_in hE.1 hp5 (gt := gt) (tk := tk) (fun q u hu => (hE.2.2.2.1 q u hu).2) (vN V) (Nat.le_refl _) (fun i hi => (htk i hi).2)
  have hN6 := vN_le hv0
  refine r_aload0 X dX6_takes_0 ?_
  refine r_iload1 X dX6_takes_1 ?_
  refine r_callVp (n := 1) X (c_X6_areSolosGiven l X.2.2.1 _ _ tk gt V hE htk) dX6_takes_2 tw_727 tw_729 tw_27 tw_46 tw_730 z_c80 (by decide) rfl rfl (Nat.le_of_ble_eq_true rfl) ⟨by decide, by decide⟩ (by decide +kernel) rfl (fun z1 σ1 hz1 => ?_)
  refine r_if_ne (tgt := 9) X dX6_takes_5 ⟨by omega, by omega⟩ (fun h5 => ?_) (fun h5 => ?_)
  · have hs1 := hz1.1.symm
    subst hs1
    refine r_iconst X dX6_takes_9 ?_
    refine r_istore2 X dX6_takes_10 ?_
    refine r_iconst X dX6_takes_11 ?_
    refine r_istore3 X dX6_takes_12 ?_
    refine r_iconst X dX6_takes_13 ?_
    refine r_istore4 X dX6_takes_14 ?_
    have L : ∀ (fu : Nat) (m G0 S0 : Int) (t : Nat) (o5 : Option Value), (V 0 - m) < (fu : Int) → 0 ≤ m → m ≤ V 0 → t ≤ vN V → (∀ i, i < t → vw V i < m) → (∀ i, t ≤ i → i < vN V → m ≤ vw V i) → G0 = cg (vst V p gt) tk t → S0 = cs (vst V p gt) tk t → z_G pg l e (z_rm 3) s mm ([.ref (a 80), .int (zI p)] : List Value).toArray below meth c 6 D κ a A 0 0 (MQ below (z_Qq D κ a A (fun σ' => AccM σ' V p (cIf (vfin V p tk ∧ better g s0 c0) (1, g, s0, tk) c0) ∧ zFA σ σ' p)) ([.ref (a 80), .int (zI p)] : List Value).toArray s 0 0 A) σ [some (.ref (a 80)), some (.int (zI p)), some (.int (zI G0)), some (.int (zI S0)), some (.int (zI m)), o5] 16 [] := by
      intro fu
      induction fu with
      | zero =>
        intro m G0 S0 t o5 hn m0 m1 ht hlo hhi hG hS
        omega
      | succ fu ihL =>
        intro m G0 S0 t o5 hn m0 m1 ht hlo hhi hG hS
        have hr := cg_in hE.1 hp5 (gt := gt) (tk := tk) (fun q u hu => (hE.2.2.2.1 q u hu).2) t ht (fun i hi => (htk i (by omega)).2)
        refine r_iload4 X dX6_takes_16 ?_
        refine r_aload0 X dX6_takes_18 ?_
        refine r_get X 0 dX6_takes_19 z_c80 in_X6 tw_558 (by decide) rfl rfl (by decide) ?_
        refine r_iconst X dX6_takes_22 ?_
        refine r_iald X dX6_takes_23 z_c81 (by decide) ⟨by omega, by omega⟩ ?_
        refine r_eqi (hE.2.1.1 0 (by omega) (by omega)) ?_
        refine r_icmp_ge (tgt := 78) X dX6_takes_24 ⟨⟨by omega, by omega⟩, by omega, by omega⟩ (fun h24 => ?_) (fun h24 => ?_)
        · have hGn : G0 = g := by
            rw [hG, hg]
            by_cases e : p = 0
            · subst e; rw [(cg_p0 _).1, (cg_p0 _).1]
            · have e2 : t = vN V := by
                rcases Nat.lt_or_ge t (vN V) with q | q
                · have := hhi t (Nat.le_refl _) q
                  have := (vw_in q).1
                  omega
                · omega
              rw [e2]
          have hSn : S0 = s0 := by
            rw [hS, hs]
            by_cases e : p = 0
            · subst e; rw [(cg_p0 _).2, (cg_p0 _).2]
            · have e2 : t = vN V := by
                rcases Nat.lt_or_ge t (vN V) with q | q
                · have := hhi t (Nat.le_refl _) q
                  have := (vw_in q).1
                  omega
                · omega
              rw [e2]
          have hfin : vfin V p tk := hz1.2.2.mp (by omega)
          have J : better g s0 c0 → z_G pg l e (z_rm 3) s mm ([.ref (a 80), .int (zI p)] : List Value).toArray below meth c 6 D κ a A 0 0 (MQ below (z_Qq D κ a A (fun σ' => AccM σ' V p (cIf (vfin V p tk ∧ better g s0 c0) (1, g, s0, tk) c0) ∧ zFA σ σ' p)) ([.ref (a 80), .int (zI p)] : List Value).toArray s 0 0 A) σ [some (.ref (a 80)), some (.int (zI p)), some (.int (zI G0)), some (.int (zI S0)), some (.int (zI m)), o5] 117 [] := by
            intro hbt
            refine r_aload0 X dX6_takes_117 ?_
            refine r_get X 10 dX6_takes_118 z_c80 in_X6 tw_568 (by decide) rfl rfl (by decide) ?_
            refine r_iload1 X dX6_takes_121 ?_
            refine r_iconst X dX6_takes_122 ?_
            refine r_zast X dX6_takes_123 z_c89 (by decide) ⟨by omega, by omega⟩ (by omega) ?_
            refine r_aload0 X dX6_takes_124 ?_
            refine r_get X 11 dX6_takes_125 z_c80 in_X6 tw_569 (by decide) rfl rfl (by decide) ?_
            refine r_iload1 X dX6_takes_128 ?_
            refine r_iload2 X dX6_takes_129 ?_
            refine r_iast X dX6_takes_130 z_c90 (by decide) ⟨by omega, by omega⟩ ?_
            refine r_aload0 X dX6_takes_131 ?_
            refine r_get X 12 dX6_takes_132 z_c80 in_X6 tw_570 (by decide) rfl rfl (by decide) ?_
            refine r_iload1 X dX6_takes_135 ?_
            refine r_iload3 X dX6_takes_136 ?_
            refine r_iast X dX6_takes_137 z_c91 (by decide) ⟨by omega, by omega⟩ ?_
            refine r_iconst X dX6_takes_138 ?_
            refine r_istore4 X dX6_takes_139 ?_
            have hgood : vgood V p (1, g, s0, tk) := ⟨Or.inr rfl, fun _ => ⟨by have := hr9.1; rw [← hg] at this; exact this, by have := hr9.2; rw [← hs] at this; exact ⟨this.1, by show s0 ≤ 240; omega⟩, fun t ht => htn t ht⟩⟩
            have hF0 : zFA σ (z_up (z_up (z_up σ 89 p 1) 90 p G0) 91 p S0) p := ⟨fun c a b d e => by rw [z_up_c e, z_up_c d, z_up_c b], fun x hx => by simp [z_up_a, hx], fun j _ => by rw [z_up_c (by decide), z_up_c (by decide), z_up_c (by decide)]⟩
            have L3 : ∀ (fu : Nat) (m : Int) (σ1 : zSt), (V 0 - m) < (fu : Int) → 0 ≤ m → m ≤ V 0 → zFA σ σ1 p → σ1 89 p = 1 → σ1 90 p = g → σ1 91 p = s0 → (∀ j : Int, 0 ≤ j → j < m → σ1 88 (6 * p + j) = σ 92 j) → z_G pg l e (z_rm 3) s mm ([.ref (a 80), .int (zI p)] : List Value).toArray below meth c 6 D κ a A 0 0 (MQ below (z_Qq D κ a A (fun σ' => AccM σ' V p (cIf (vfin V p tk ∧ better g s0 c0) (1, g, s0, tk) c0) ∧ zFA σ σ' p)) ([.ref (a 80), .int (zI p)] : List Value).toArray s 0 0 A) σ1 [some (.ref (a 80)), some (.int (zI p)), some (.int (zI G0)), some (.int (zI S0)), some (.int (zI m)), o5] 141 [] := by
              intro fu
              induction fu with
              | zero =>
                intro m σ1 hn m0 m1 hF h89 h90 h91 hcp
                omega
              | succ fu ihL3 =>
                intro m σ1 hn m0 m1 hF h89 h90 h91 hcp
                refine r_iload4 X dX6_takes_141 ?_
                refine r_aload0 X dX6_takes_143 ?_
                refine r_get X 0 dX6_takes_144 z_c80 in_X6 tw_558 (by decide) rfl rfl (by decide) ?_
                refine r_iconst X dX6_takes_147 ?_
                refine r_iald X dX6_takes_148 z_c81 (by decide) ⟨by omega, by omega⟩ ?_
                refine r_eqi (y := V 0) (by rw [hF.1 81 (by decide) (by decide) (by decide) (by decide)]; exact hE.2.1.1 0 (by omega) (by omega)) ?_
                refine r_icmp_ge (tgt := 177) X dX6_takes_149 ⟨⟨by omega, by omega⟩, by omega, by omega⟩ (fun h149 => ?_) (fun h149 => ?_)
                · exact r_vretp X M dX6_takes_177 ⟨by rw [cIf_t ⟨hfin, hbt⟩]; exact ⟨h89, hgood, fun _ => ⟨h90, h91, fun t ht => by have q := (vw_in ht).1; rw [hcp (vw V t) (by omega) (by omega)]; exact (htk t ht).1⟩⟩, hF⟩
                · refine r_aload0 X dX6_takes_152 ?_
                  refine r_get X 9 dX6_takes_153 z_c80 in_X6 tw_567 (by decide) rfl rfl (by decide) ?_
                  refine r_bipush X dX6_takes_156 (by decide +kernel) ?_
                  refine r_iload1 X dX6_takes_158 ?_
                  refine r_imul X dX6_takes_159 ?_
                  refine r_iload4 X dX6_takes_160 ?_
                  refine r_iadd X dX6_takes_162 ?_
                  refine r_aload0 X dX6_takes_163 ?_
                  refine r_get X 13 dX6_takes_164 z_c80 in_X6 tw_571 (by decide) rfl rfl (by decide) ?_
                  refine r_iload4 X dX6_takes_167 ?_
                  refine r_iald X dX6_takes_169 z_c92 (by decide) ⟨by omega, by omega⟩ ?_
                  refine r_eqi (y := σ 92 m) (by rw [hF.1 92 (by decide) (by decide) (by decide) (by decide)]) ?_
                  refine r_iast X dX6_takes_170 z_c88 (by decide) ⟨by omega, by omega⟩ ?_
                  refine r_iinc4 X dX6_takes_171 ?_
                  refine r_goto (tgt := 141) X dX6_takes_174 (by decide) ?_
                  exact ihL3 (m + 1) _ (by omega) (by omega) (by omega) ⟨fun c a b d e => by rw [z_up_c a]; exact hF.1 c a b d e, fun x hx => by rw [z_up_c (by decide), z_up_c (by decide), z_up_c (by decide)]; exact hF.2.1 x hx, fun j hj => by rw [z_up_j (by omega)]; exact hF.2.2 j hj⟩ (by rw [z_up_c (by decide)]; exact h89) (by rw [z_up_c (by decide)]; exact h90) (by rw [z_up_c (by decide)]; exact h91) (cp_step hcp)
            exact L3 8 0 _ (by omega) (by omega) (by omega) hF0 (by simp [z_up_a]) (by simp [z_up_a, hGn]) (by simp [z_up_a, hSn]) (fun j _ _ => by omega)
          refine r_aload0 X dX6_takes_78 ?_
          refine r_get X 10 dX6_takes_79 z_c80 in_X6 tw_568 (by decide) rfl rfl (by decide) ?_
          refine r_iload1 X dX6_takes_82 ?_
          refine r_zald X dX6_takes_83 z_c89 (by decide) ⟨by omega, by omega⟩ ?_
          refine r_eqi hAc.1 ?_
          refine r_if_eq (tgt := 117) X dX6_takes_84 ⟨by omega, by omega⟩ (fun h84 => ?_) (fun h84 => ?_)
          · exact J (by rw [← hGn, ← hSn]; unfold better; omega)
          · refine r_iload2 X dX6_takes_87 ?_
            refine r_aload0 X dX6_takes_88 ?_
            refine r_get X 11 dX6_takes_89 z_c80 in_X6 tw_569 (by decide) rfl rfl (by decide) ?_
            refine r_iload1 X dX6_takes_92 ?_
            refine r_iald X dX6_takes_93 z_c90 (by decide) ⟨by omega, by omega⟩ ?_
            refine r_eqi (hAc.2.2 (by omega)).1 ?_
            refine r_icmp_lt (tgt := 117) X dX6_takes_94 ⟨⟨by omega, by omega⟩, by omega, by omega⟩ (fun h94 => ?_) (fun h94 => ?_)
            · exact J (by rw [← hGn, ← hSn]; unfold better; omega)
            · refine r_iload2 X dX6_takes_97 ?_
              refine r_aload0 X dX6_takes_98 ?_
              refine r_get X 11 dX6_takes_99 z_c80 in_X6 tw_569 (by decide) rfl rfl (by decide) ?_
              refine r_iload1 X dX6_takes_102 ?_
              refine r_iald X dX6_takes_103 z_c90 (by decide) ⟨by omega, by omega⟩ ?_
              refine r_eqi (hAc.2.2 (by omega)).1 ?_
              refine r_icmp_ne (tgt := 177) X dX6_takes_104 ⟨⟨by omega, by omega⟩, by omega, by omega⟩ (fun h104 => ?_) (fun h104 => ?_)
              · exact r_vretp X M dX6_takes_177 ⟨by rw [cIf_f (fun q => by have q2 := q.2; rw [← hGn, ← hSn] at q2; unfold better at q2; omega)]; exact hAc, zFA.refl _ _⟩
              · refine r_iload3 X dX6_takes_107 ?_
                refine r_aload0 X dX6_takes_108 ?_
                refine r_get X 12 dX6_takes_109 z_c80 in_X6 tw_570 (by decide) rfl rfl (by decide) ?_
                refine r_iload1 X dX6_takes_112 ?_
                refine r_iald X dX6_takes_113 z_c91 (by decide) ⟨by omega, by omega⟩ ?_
                refine r_eqi (hAc.2.2 (by omega)).2.1 ?_
                refine r_icmp_ge (tgt := 177) X dX6_takes_114 ⟨⟨by omega, by omega⟩, by omega, by omega⟩ (fun h114 => ?_) (fun h114 => ?_)
                · exact r_vretp X M dX6_takes_177 ⟨by rw [cIf_f (fun q => by have q2 := q.2; rw [← hGn, ← hSn] at q2; unfold better at q2; omega)]; exact hAc, zFA.refl _ _⟩
                · exact J (by rw [← hGn, ← hSn]; unfold better; omega)
        · refine r_iload1 X dX6_takes_27 ?_
          refine r_if_le (tgt := 78) X dX6_takes_28 ⟨by omega, by omega⟩ (fun h28 => ?_) (fun h28 => ?_)
          · have hGn : G0 = g := by
              rw [hG, hg]
              by_cases e : p = 0
              · subst e; rw [(cg_p0 _).1, (cg_p0 _).1]
              · have e2 : t = vN V := by
                  rcases Nat.lt_or_ge t (vN V) with q | q
                  · have := hhi t (Nat.le_refl _) q
                    have := (vw_in q).1
                    omega
                  · omega
                rw [e2]
            have hSn : S0 = s0 := by
              rw [hS, hs]
              by_cases e : p = 0
              · subst e; rw [(cg_p0 _).2, (cg_p0 _).2]
              · have e2 : t = vN V := by
                  rcases Nat.lt_or_ge t (vN V) with q | q
                  · have := hhi t (Nat.le_refl _) q
                    have := (vw_in q).1
                    omega
                  · omega
                rw [e2]
            have hfin : vfin V p tk := hz1.2.2.mp (by omega)
            have J : better g s0 c0 → z_G pg l e (z_rm 3) s mm ([.ref (a 80), .int (zI p)] : List Value).toArray below meth c 6 D κ a A 0 0 (MQ below (z_Qq D κ a A (fun σ' => AccM σ' V p (cIf (vfin V p tk ∧ better g s0 c0) (1, g, s0, tk) c0) ∧ zFA σ σ' p)) ([.ref (a 80), .int (zI p)] : List Value).toArray s 0 0 A) σ [some (.ref (a 80)), some (.int (zI p)), some (.int (zI G0)), some (.int (zI S0)), some (.int (zI m)), o5] 117 [] := by
              intro hbt
              refine r_aload0 X dX6_takes_117 ?_
              refine r_get X 10 dX6_takes_118 z_c80 in_X6 tw_568 (by decide) rfl rfl (by decide) ?_
              refine r_iload1 X dX6_takes_121 ?_
              refine r_iconst X dX6_takes_122 ?_
              refine r_zast X dX6_takes_123 z_c89 (by decide) ⟨by omega, by omega⟩ (by omega) ?_
              refine r_aload0 X dX6_takes_124 ?_
              refine r_get X 11 dX6_takes_125 z_c80 in_X6 tw_569 (by decide) rfl rfl (by decide) ?_
              refine r_iload1 X dX6_takes_128 ?_
              refine r_iload2 X dX6_takes_129 ?_
              refine r_iast X dX6_takes_130 z_c90 (by decide) ⟨by omega, by omega⟩ ?_
              refine r_aload0 X dX6_takes_131 ?_
              refine r_get X 12 dX6_takes_132 z_c80 in_X6 tw_570 (by decide) rfl rfl (by decide) ?_
              refine r_iload1 X dX6_takes_135 ?_
              refine r_iload3 X dX6_takes_136 ?_
              refine r_iast X dX6_takes_137 z_c91 (by decide) ⟨by omega, by omega⟩ ?_
              refine r_iconst X dX6_takes_138 ?_
              refine r_istore4 X dX6_takes_139 ?_
              have hgood : vgood V p (1, g, s0, tk) := ⟨Or.inr rfl, fun _ => ⟨by have := hr9.1; rw [← hg] at this; exact this, by have := hr9.2; rw [← hs] at this; exact ⟨this.1, by show s0 ≤ 240; omega⟩, fun t ht => htn t ht⟩⟩
              have hF0 : zFA σ (z_up (z_up (z_up σ 89 p 1) 90 p G0) 91 p S0) p := ⟨fun c a b d e => by rw [z_up_c e, z_up_c d, z_up_c b], fun x hx => by simp [z_up_a, hx], fun j _ => by rw [z_up_c (by decide), z_up_c (by decide), z_up_c (by decide)]⟩
              have L3 : ∀ (fu : Nat) (m : Int) (σ1 : zSt), (V 0 - m) < (fu : Int) → 0 ≤ m → m ≤ V 0 → zFA σ σ1 p → σ1 89 p = 1 → σ1 90 p = g → σ1 91 p = s0 → (∀ j : Int, 0 ≤ j → j < m → σ1 88 (6 * p + j) = σ 92 j) → z_G pg l e (z_rm 3) s mm ([.ref (a 80), .int (zI p)] : List Value).toArray below meth c 6 D κ a A 0 0 (MQ below (z_Qq D κ a A (fun σ' => AccM σ' V p (cIf (vfin V p tk ∧ better g s0 c0) (1, g, s0, tk) c0) ∧ zFA σ σ' p)) ([.ref (a 80), .int (zI p)] : List Value).toArray s 0 0 A) σ1 [some (.ref (a 80)), some (.int (zI p)), some (.int (zI G0)), some (.int (zI S0)), some (.int (zI m)), o5] 141 [] := by
                intro fu
                induction fu with
                | zero =>
                  intro m σ1 hn m0 m1 hF h89 h90 h91 hcp
                  omega
                | succ fu ihL3 =>
                  intro m σ1 hn m0 m1 hF h89 h90 h91 hcp
                  refine r_iload4 X dX6_takes_141 ?_
                  refine r_aload0 X dX6_takes_143 ?_
                  refine r_get X 0 dX6_takes_144 z_c80 in_X6 tw_558 (by decide) rfl rfl (by decide) ?_
                  refine r_iconst X dX6_takes_147 ?_
                  refine r_iald X dX6_takes_148 z_c81 (by decide) ⟨by omega, by omega⟩ ?_
                  refine r_eqi (y := V 0) (by rw [hF.1 81 (by decide) (by decide) (by decide) (by decide)]; exact hE.2.1.1 0 (by omega) (by omega)) ?_
                  refine r_icmp_ge (tgt := 177) X dX6_takes_149 ⟨⟨by omega, by omega⟩, by omega, by omega⟩ (fun h149 => ?_) (fun h149 => ?_)
                  · exact r_vretp X M dX6_takes_177 ⟨by rw [cIf_t ⟨hfin, hbt⟩]; exact ⟨h89, hgood, fun _ => ⟨h90, h91, fun t ht => by have q := (vw_in ht).1; rw [hcp (vw V t) (by omega) (by omega)]; exact (htk t ht).1⟩⟩, hF⟩
                  · refine r_aload0 X dX6_takes_152 ?_
                    refine r_get X 9 dX6_takes_153 z_c80 in_X6 tw_567 (by decide) rfl rfl (by decide) ?_
                    refine r_bipush X dX6_takes_156 (by decide +kernel) ?_
                    refine r_iload1 X dX6_takes_158 ?_
                    refine r_imul X dX6_takes_159 ?_
                    refine r_iload4 X dX6_takes_160 ?_
                    refine r_iadd X dX6_takes_162 ?_
                    refine r_aload0 X dX6_takes_163 ?_
                    refine r_get X 13 dX6_takes_164 z_c80 in_X6 tw_571 (by decide) rfl rfl (by decide) ?_
                    refine r_iload4 X dX6_takes_167 ?_
                    refine r_iald X dX6_takes_169 z_c92 (by decide) ⟨by omega, by omega⟩ ?_
                    refine r_eqi (y := σ 92 m) (by rw [hF.1 92 (by decide) (by decide) (by decide) (by decide)]) ?_
                    refine r_iast X dX6_takes_170 z_c88 (by decide) ⟨by omega, by omega⟩ ?_
                    refine r_iinc4 X dX6_takes_171 ?_
                    refine r_goto (tgt := 141) X dX6_takes_174 (by decide) ?_
                    exact ihL3 (m + 1) _ (by omega) (by omega) (by omega) ⟨fun c a b d e => by rw [z_up_c a]; exact hF.1 c a b d e, fun x hx => by rw [z_up_c (by decide), z_up_c (by decide), z_up_c (by decide)]; exact hF.2.1 x hx, fun j hj => by rw [z_up_j (by omega)]; exact hF.2.2 j hj⟩ (by rw [z_up_c (by decide)]; exact h89) (by rw [z_up_c (by decide)]; exact h90) (by rw [z_up_c (by decide)]; exact h91) (cp_step hcp)
              exact L3 8 0 _ (by omega) (by omega) (by omega) hF0 (by simp [z_up_a]) (by simp [z_up_a, hGn]) (by simp [z_up_a, hSn]) (fun j _ _ => by omega)
            refine r_aload0 X dX6_takes_78 ?_
            refine r_get X 10 dX6_takes_79 z_c80 in_X6 tw_568 (by decide) rfl rfl (by decide) ?_
            refine r_iload1 X dX6_takes_82 ?_
            refine r_zald X dX6_takes_83 z_c89 (by decide) ⟨by omega, by omega⟩ ?_
            refine r_eqi hAc.1 ?_
            refine r_if_eq (tgt := 117) X dX6_takes_84 ⟨by omega, by omega⟩ (fun h84 => ?_) (fun h84 => ?_)
            · exact J (by rw [← hGn, ← hSn]; unfold better; omega)
            · refine r_iload2 X dX6_takes_87 ?_
              refine r_aload0 X dX6_takes_88 ?_
              refine r_get X 11 dX6_takes_89 z_c80 in_X6 tw_569 (by decide) rfl rfl (by decide) ?_
              refine r_iload1 X dX6_takes_92 ?_
              refine r_iald X dX6_takes_93 z_c90 (by decide) ⟨by omega, by omega⟩ ?_
              refine r_eqi (hAc.2.2 (by omega)).1 ?_
              refine r_icmp_lt (tgt := 117) X dX6_takes_94 ⟨⟨by omega, by omega⟩, by omega, by omega⟩ (fun h94 => ?_) (fun h94 => ?_)
              · exact J (by rw [← hGn, ← hSn]; unfold better; omega)
              · refine r_iload2 X dX6_takes_97 ?_
                refine r_aload0 X dX6_takes_98 ?_
                refine r_get X 11 dX6_takes_99 z_c80 in_X6 tw_569 (by decide) rfl rfl (by decide) ?_
                refine r_iload1 X dX6_takes_102 ?_
                refine r_iald X dX6_takes_103 z_c90 (by decide) ⟨by omega, by omega⟩ ?_
                refine r_eqi (hAc.2.2 (by omega)).1 ?_
                refine r_icmp_ne (tgt := 177) X dX6_takes_104 ⟨⟨by omega, by omega⟩, by omega, by omega⟩ (fun h104 => ?_) (fun h104 => ?_)
                · exact r_vretp X M dX6_takes_177 ⟨by rw [cIf_f (fun q => by have q2 := q.2; rw [← hGn, ← hSn] at q2; unfold better at q2; omega)]; exact hAc, zFA.refl _ _⟩
                · refine r_iload3 X dX6_takes_107 ?_
                  refine r_aload0 X dX6_takes_108 ?_
                  refine r_get X 12 dX6_takes_109 z_c80 in_X6 tw_570 (by decide) rfl rfl (by decide) ?_
                  refine r_iload1 X dX6_takes_112 ?_
                  refine r_iald X dX6_takes_113 z_c91 (by decide) ⟨by omega, by omega⟩ ?_
                  refine r_eqi (hAc.2.2 (by omega)).2.1 ?_
                  refine r_icmp_ge (tgt := 177) X dX6_takes_114 ⟨⟨by omega, by omega⟩, by omega, by omega⟩ (fun h114 => ?_) (fun h114 => ?_)
                  · exact r_vretp X M dX6_takes_177 ⟨by rw [cIf_f (fun q => by have q2 := q.2; rw [← hGn, ← hSn] at q2; unfold better at q2; omega)]; exact hAc, zFA.refl _ _⟩
                  · exact J (by rw [← hGn, ← hSn]; unfold better; omega)
          · have hil := hE.ill (m := m) (by omega) (by omega)
            refine r_aload0 X dX6_takes_31 ?_
            refine r_iload4 X dX6_takes_32 ?_
            refine r_callVi (n := 1) X (c_X6_isIll l X.2.2.1 _ _ ⟨by omega, by omega⟩ ⟨by omega, by omega⟩) dX6_takes_34 tw_711 tw_713 tw_23 tw_46 tw_714 z_c80 (by decide) rfl rfl (Nat.le_of_ble_eq_true rfl) ⟨by decide, by decide⟩ (by decide +kernel) rfl ?_
            refine r_if_eqB (tgt := 44) X dX6_takes_37 (fun h37 => ?_) (fun h37 => ?_)
            · obtain ⟨i, hi, hiw0⟩ := vw_ex (V := V) (m := m) (by omega) (by omega) (by omega)
              have hit : i = t := by
                rcases Nat.lt_trichotomy i t with q | q | q
                · have := hlo i q; omega
                · exact q
                · have q1 := hhi t (Nat.le_refl _) (by omega)
                  have q2 := vw_lt (V := V) q hi
                  omega
              have hit := hit.symm
              subst hit
              have hiw := hiw0
              have htki := htk t hi
              have hgtt := hE.2.2.2.1 (by omega) t hi
              have hti : σ 92 m = tk t := by rw [← hiw]; exact htki.1
              have hsr := vstep_in hE.1 (p := p) (f := gt t) (d := tk t) (by omega) hgtt.2 htki.2
              have hvst : vst V p gt t (tk t).toNat = vstep V p (gt t) (tk t) := by unfold vst; rw [if_neg (by omega), show (((tk t).toNat : Nat) : Int) = tk t by omega]
              refine r_aload0 X dX6_takes_44 ?_
              refine r_iload1 X dX6_takes_45 ?_
              refine r_iload4 X dX6_takes_46 ?_
              refine r_aload0 X dX6_takes_48 ?_
              refine r_get X 13 dX6_takes_49 z_c80 in_X6 tw_571 (by decide) rfl rfl (by decide) ?_
              refine r_iload4 X dX6_takes_52 ?_
              refine r_iald X dX6_takes_54 z_c92 (by decide) ⟨by omega, by omega⟩ ?_
              refine r_eqi hti ?_
              refine r_callVi (n := 3) X (c_X6_stepTo l X.2.2.1 _ p _ _ (gt t) ⟨by omega, by omega⟩ ⟨by omega, by omega⟩ ⟨by omega, by omega⟩ hgtt.2 (by rw [← hiw]; exact hgtt.1) V hE.1 hE.2.1) dX6_takes_55 tw_731 tw_733 tw_28 tw_46 tw_734 z_c80 (by decide) rfl rfl (Nat.le_of_ble_eq_true rfl) ⟨by decide, by decide⟩ (by decide +kernel) rfl ?_
              refine r_istore5 X dX6_takes_58 ?_
              refine r_iload2 X dX6_takes_60 ?_
              refine r_iload5 X dX6_takes_61 ?_
              refine r_callSi (n := 2) X (c_X6_greater l X.2.2.1 _ _ _ ⟨by omega, by omega⟩ ⟨by omega, by omega⟩) dX6_takes_63 tw_746 tw_747 tw_46 tw_748 rfl (Nat.le_of_ble_eq_true rfl) ⟨by decide, by decide⟩ (by decide +kernel) rfl ?_
              refine r_istore2 X dX6_takes_66 ?_
              refine r_iload3 X dX6_takes_67 ?_
              refine r_iload5 X dX6_takes_68 ?_
              refine r_iadd X dX6_takes_70 ?_
              refine r_istore3 X dX6_takes_71 ?_
              refine r_iinc4 X dX6_takes_72 ?_
              refine r_goto (tgt := 16) X dX6_takes_75 (by decide) ?_
              first
              | exact ihL (m + 1) _ _ t _ (by omega) (by omega) (by omega) ht (fun i hi => by have := hlo i hi; omega) (fun i hi hi2 => by
                  have q1 := hhi i hi hi2
                  by_cases e : vw V i = m
                  · have q2 := (vw_in hi2).2
                    rw [e] at q2
                    exfalso; omega
                  · omega) (by omega) (by omega)
              | exact ihL (m + 1) _ _ (t + 1) _ (by omega) (by omega) (by omega) (by omega) (fun i hi => by
                  by_cases e : i = t
                  · subst e; omega
                  · have := hlo i (by omega); omega) (fun i hi hi2 => by have := vw_lt (V := V) (t := t) (u := i) (by omega) hi2; omega) (by unfold cg; rw [← hG, hvst]) (by unfold cs; rw [← hS, hvst])
            · refine r_iconst X dX6_takes_40 ?_
              refine r_goto (tgt := 58) X dX6_takes_41 (by decide) ?_
              refine r_istore5 X dX6_takes_58 ?_
              refine r_iload2 X dX6_takes_60 ?_
              refine r_iload5 X dX6_takes_61 ?_
              refine r_callSi (n := 2) X (c_X6_greater l X.2.2.1 _ _ _ ⟨by omega, by omega⟩ ⟨by omega, by omega⟩) dX6_takes_63 tw_746 tw_747 tw_46 tw_748 rfl (Nat.le_of_ble_eq_true rfl) ⟨by decide, by decide⟩ (by decide +kernel) rfl ?_
              refine r_istore2 X dX6_takes_66 ?_
              refine r_iload3 X dX6_takes_67 ?_
              refine r_iload5 X dX6_takes_68 ?_
              refine r_iadd X dX6_takes_70 ?_
              refine r_istore3 X dX6_takes_71 ?_
              refine r_iinc4 X dX6_takes_72 ?_
              refine r_goto (tgt := 16) X dX6_takes_75 (by decide) ?_
              first
              | exact ihL (m + 1) _ _ t _ (by omega) (by omega) (by omega) ht (fun i hi => by have := hlo i hi; omega) (fun i hi hi2 => by
                  have q1 := hhi i hi hi2
                  by_cases e : vw V i = m
                  · have q2 := (vw_in hi2).2
                    rw [e] at q2
                    exfalso; omega
                  · omega) (by omega) (by omega)
              | exact ihL (m + 1) _ _ (t + 1) _ (by omega) (by omega) (by omega) (by omega) (fun i hi => by
                  by_cases e : i = t
                  · subst e; omega
                  · have := hlo i (by omega); omega) (fun i hi hi2 => by have := vw_lt (V := V) (t := t) (u := i) (by omega) hi2; omega) (by unfold cg; rw [← hG, hvst]) (by unfold cs; rw [← hS, hvst])
    exact L 8 0 0 0 0 none (by omega) (by omega) (by omega) (by omega) (fun i hi => by omega) (fun i _ hi => (vw_in hi).1.1) rfl rfl
  · have hs1 := hz1.1.symm
    subst hs1
    exact r_vretp X M dX6_takes_8 ⟨by rw [cIf_f (fun q => by have := hz1.2.2.mpr q.1; omega)]; exact hAc, zFA.refl _ _⟩

