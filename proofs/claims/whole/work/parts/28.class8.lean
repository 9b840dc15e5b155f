/-- the search's rows that a search leaves as they are -/
def zFS (σ σ' : zSt) (t : Nat) : Prop := (∀ c : Nat, c ≠ 72 → c ≠ 73 → c ≠ 77 → c ≠ 79 → σ' c = σ c) ∧ (∀ j : Int, 3 ≤ j → σ' 72 j = σ 72 j) ∧ ∀ i : Nat, i < t → σ' 77 (i : Int) = σ 77 (i : Int)
theorem zFS.refl (σ : zSt) (t : Nat) : zFS σ σ t := ⟨fun _ _ _ _ _ => rfl, fun _ _ => rfl, fun _ _ => rfl⟩
theorem zFS.trans {σ σ1 σ2 : zSt} {t u : Nat} (h : zFS σ σ1 t) (h2 : zFS σ1 σ2 u) (htu : t ≤ u) : zFS σ σ2 t := ⟨fun c a b d e => (h2.1 c a b d e).trans (h.1 c a b d e), fun j hj => (h2.2.1 j hj).trans (h.2.1 j hj), fun i hi => (h2.2.2 i (by omega)).trans (h.2.2 i hi)⟩
theorem AccC.of {σ σ1 : zSt} {V : zV} {p : Int} {c : zAcc} (h : AccC σ V p c) (e2 : σ1 72 = σ 72) (e3 : σ1 73 = σ 73) : AccC σ1 V p c := by unfold AccC; rw [e2, e3]; exact h
/-- one turn's try of one dot, with branches left -/
noncomputable def cstep (ok : Nat → (Nat → Int) → Nat → Prop) (st : Nat → Nat → Int) (so : Nat → Prop) (nd r t : Nat) (tk : Nat → Int) (g s : Int) : Nat → zAcc → zAcc := fun d c => cIf (ok t tk d ∧ better (max g (st t d)) (s + st t d) c) (cdfs ok st so nd r (t + 1) (tkU tk t (d : Int)) (max g (st t d)) (s + st t d) c) c
theorem cdfs_s {ok : Nat → (Nat → Int) → Nat → Prop} {st : Nat → Nat → Int} {so : Nat → Prop} {nd r t : Nat} {tk : Nat → Int} {g s : Int} {c : zAcc} (h : ¬ r + 1 < unf so tk t nd) : cdfs ok st so nd (r + 1) t tk g s c = sp_lp (cstep ok st so nd r t tk g s) nd c := by
  unfold cdfs
  rw [cIf_f h]
  rfl
theorem cdfs_f {ok : Nat → (Nat → Int) → Nat → Prop} {st : Nat → Nat → Int} {so : Nat → Prop} {nd r t : Nat} {tk : Nat → Int} {g s : Int} {c : zAcc} (h : r < unf so tk t nd) : cdfs ok st so nd r t tk g s c = c := by
  cases r with
  | zero => unfold cdfs; rw [cIf_t h]
  | succ r => unfold cdfs; rw [cIf_t h]
theorem stp_ok {V : zV} (hV : v_ok V) {K : Nat} (hK : K < 5) {gt tk : Nat → Int} {t d : Nat} (hg : (K : Int) ≠ 0 → 0 ≤ gt t ∧ gt t < 7) (hd : d < 7) : (stp V (K : Int) gt t (d : Int) ≠ -1 → stp V (K : Int) gt t (d : Int) = vst V (K : Int) gt t d ∧ ((K : Int) = 0 ∨ vstep V (K : Int) (gt t) (d : Int) ≤ V (6 + 2 * vw V t) * vc V (K : Int))) ∧ (stp V (K : Int) gt t (d : Int) = -1 → (K : Int) ≠ 0 ∧ ¬ vstep V (K : Int) (gt t) (d : Int) ≤ V (6 + 2 * vw V t) * vc V (K : Int)) ∧ -1 ≤ stp V (K : Int) gt t (d : Int) ∧ stp V (K : Int) gt t (d : Int) ≤ 40 := by
  unfold stp vst
  by_cases e : (K : Int) = 0
  · rw [if_pos e, if_pos e]
    exact ⟨fun _ => ⟨rfl, Or.inl e⟩, fun h => by omega, by omega, by omega⟩
  · rw [if_neg e, if_neg e]
    have hs := vstep_in hV (p := (K : Int)) (f := gt t) (d := (d : Int)) (by omega) (hg e) (by omega)
    by_cases e2 : vstep V (K : Int) (gt t) (d : Int) ≤ V (6 + 2 * vw V t) * vc V (K : Int)
    · rw [if_pos e2]
      exact ⟨fun _ => ⟨rfl, Or.inr e2⟩, fun h => by omega, by omega, by omega⟩
    · rw [if_neg e2]
      exact ⟨fun h => by omega, fun _ => ⟨e, e2⟩, by omega, by omega⟩

set_option maxRecDepth 100000 in
set_option maxHeartbeats 8000000 in
theorem c_X2_choose (l : Launch) {D : va_G} {κ : Nat → ClassId} {a : Nat → Nat} {A : Nat → Prop} (hA : z_aD a A) (K : Nat) (hK : K < 5) (gt : Nat → Int) (V : zV) (hV : v_ok V) (hKV : (K : Int) < V 1) : ∀ (r t : Nat) (tk : Nat → Int) (u : Nat) (sl g s0 : Int) (c0 : zAcc) (σ : zSt), t + r = vN V → (u < 128 ∧ ∀ e : Nat, e < 7 → (u / 2 ^ e % 2 = 1 ↔ ∃ i, i < t ∧ tk i = (e : Int))) → sl = ((unf (vso V (K : Int)) tk t (vn V (K : Int)).toNat : Nat) : Int) → ((0 ≤ g ∧ g ≤ 40) ∧ 0 ≤ s0 ∧ s0 ≤ 40 * (t : Int)) → (∀ i : Nat, i < t → σ 77 (i : Int) = tk i ∧ 0 ≤ tk i ∧ tk i < vn V (K : Int)) → AccC σ V (K : Int) c0 → cEv σ V (K : Int) gt → cSee σ V → z_Tq l D κ a A yX2_choose cX2_choose 9 none (4 + r) [.ref (a 72), .ref (a (1 + 4 + 4 * K)), .int (zI (t : Int)), .int (zI (u : Int)), .int (zI sl), .int (zI g), .int (zI s0)] σ (fun σ' => AccC σ' V (K : Int) (cdfs (vok V (K : Int) gt) (vst V (K : Int) gt) (vso V (K : Int)) (vn V (K : Int)).toNat r t tk g s0 c0) ∧ cEv σ' V (K : Int) gt ∧ zFS σ σ' t) := by
  have hq := z_pic.mk (b := 1) (k := K) (Or.inl rfl) hK
  have hnn := vn_in hV (k := (K : Int)) (by omega)
  have hv0 := hV.1.1
  have hN6 := vN_le hv0
  intro r
  induction r with
  | zero =>
    intro t tk u sl g s0 c0 σ htr hu hsl hgs htk hAc hEv hC
    refine z_Tq_of (cc := cX2_choose) (maxL := 9) (ret := none) (own := RX2) (lv0 := [some (.ref (a 72)), some (.ref (a (1 + 4 + 4 * K))), some (.int (zI (t : Int))), some (.int (zI (u : Int))), some (.int (zI sl)), some (.int (zI g)), some (.int (zI s0)), none, none]) hA (by decide) rfl (Nat.le_of_ble_eq_true rfl) rfl ?_
    intro pg e s mm below meth c X M
    have hul := unf_le (vso V (K : Int)) tk t (vn V (K : Int)).toNat
    have hpk := hC.2.2 K hK
    refine r_iload4 X dX2_choose_0 ?_
    refine r_aload0 X dX2_choose_2 ?_
    refine r_get X 5 dX2_choose_3 z_c72 in_X2 tw_174 (by decide) rfl rfl (by decide) ?_
    refine r_eqi hEv.1 ?_
    refine r_iload2 X dX2_choose_6 ?_
    refine r_isub X dX2_choose_7 ?_
    refine r_icmp_le (tgt := 12) X dX2_choose_8 ⟨⟨by omega, by omega⟩, by omega, by omega⟩ (fun h8 => ?_) (fun h8 => ?_)
    · refine r_iload2 X dX2_choose_12 ?_
      refine r_aload0 X dX2_choose_13 ?_
      refine r_get X 5 dX2_choose_14 z_c72 in_X2 tw_174 (by decide) rfl rfl (by decide) ?_
      refine r_eqi hEv.1 ?_
      refine r_icmp_lt (tgt := 29) X dX2_choose_17 ⟨⟨by omega, by omega⟩, by omega, by omega⟩ (fun h17 => ?_) (fun h17 => ?_)
      · exfalso
        omega
      · refine r_aload0 X dX2_choose_20 ?_
        refine r_iload5 X dX2_choose_21 ?_
        refine r_iload6 X dX2_choose_23 ?_
        refine r_callVv (n := 2) X (c_X2_remember l X.2.2.1 _ _ _) dX2_choose_25 tw_438 tw_440 tw_7 tw_44 tw_441 z_c72 (by decide) rfl rfl (Nat.le_of_ble_eq_true rfl) ⟨by decide, by decide⟩ (by decide +kernel) rfl ?_
        have hfin : AccC (z_uc (z_up (z_up (z_up σ 72 0 1) 72 1 g) 72 2 s0) 73 (z_cp ((z_up (z_up (z_up σ 72 0 1) 72 1 g) 72 2 s0) 77) ((z_up (z_up (z_up σ 72 0 1) 72 1 g) 72 2 s0) 73) 6)) V (K : Int) (cdfs (vok V (K : Int) gt) (vst V (K : Int) gt) (vso V (K : Int)) (vn V (K : Int)).toNat 0 t tk g s0 c0) ∧ cEv (z_uc (z_up (z_up (z_up σ 72 0 1) 72 1 g) 72 2 s0) 73 (z_cp ((z_up (z_up (z_up σ 72 0 1) 72 1 g) 72 2 s0) 77) ((z_up (z_up (z_up σ 72 0 1) 72 1 g) 72 2 s0) 73) 6)) V (K : Int) gt ∧ zFS σ (z_uc (z_up (z_up (z_up σ 72 0 1) 72 1 g) 72 2 s0) 73 (z_cp ((z_up (z_up (z_up σ 72 0 1) 72 1 g) 72 2 s0) 77) ((z_up (z_up (z_up σ 72 0 1) 72 1 g) 72 2 s0) 73) 6)) t := by
          refine ⟨?_, ?_, ?_⟩
          · unfold cdfs
            rw [cIf_f (by omega)]
            refine ⟨?_, ⟨Or.inr rfl, fun _ => ⟨hgs.1, ⟨hgs.2.1, by show s0 ≤ 240; omega⟩, fun i hi => (htk i (by omega)).2⟩⟩, fun _ => ⟨?_, ?_, fun i hi => ?_⟩⟩
            · simp [z_uc, z_up_a]
            · simp [z_uc, z_up_a]
            · simp [z_uc, z_up_a]
            · show (z_uc _ 73 _) 73 (i : Int) = tk i
              unfold z_uc
              rw [if_pos rfl]
              unfold z_cp
              rw [if_pos (by omega), z_up_c (by decide), z_up_c (by decide), z_up_c (by decide)]
              exact (htk i (by omega)).1
          · refine hEv.of ?_ ?_ ?_ ?_ ?_ (hEv.2.2.1.of ?_)
            · simp [z_uc, z_up_a]
            · simp [z_uc, z_up_a]
            all_goals (unfold z_uc; rw [if_neg (by decide), z_up_c (by decide), z_up_c (by decide), z_up_c (by decide)])
          · refine ⟨fun c a b d e => ?_, fun j hj => ?_, fun i hi => ?_⟩
            · unfold z_uc
              rw [if_neg b, z_up_c a, z_up_c a, z_up_c a]
            · unfold z_uc
              rw [if_neg (by decide), z_up_j (by omega), z_up_j (by omega), z_up_j (by omega)]
            · unfold z_uc
              rw [if_neg (by decide), z_up_c (by decide), z_up_c (by decide), z_up_c (by decide)]
        exact r_vretp X M dX2_choose_28 hfin
    · exact r_vretp X M dX2_choose_11 ⟨by rw [cdfs_f (by omega)]; exact hAc, hEv, zFS.refl _ _⟩
  | succ r ih =>
    intro t tk u sl g s0 c0 σ htr hu hsl hgs htk hAc hEv hC
    refine z_Tq_of (cc := cX2_choose) (maxL := 9) (ret := none) (own := RX2) (lv0 := [some (.ref (a 72)), some (.ref (a (1 + 4 + 4 * K))), some (.int (zI (t : Int))), some (.int (zI (u : Int))), some (.int (zI sl)), some (.int (zI g)), some (.int (zI s0)), none, none]) hA (by decide) rfl (Nat.le_of_ble_eq_true rfl) rfl ?_
    intro pg e s mm below meth c X M
    have hul := unf_le (vso V (K : Int)) tk t (vn V (K : Int)).toNat
    have hpk := hC.2.2 K hK
    have htN : t < vN V := by omega
    refine r_iload4 X dX2_choose_0 ?_
    refine r_aload0 X dX2_choose_2 ?_
    refine r_get X 5 dX2_choose_3 z_c72 in_X2 tw_174 (by decide) rfl rfl (by decide) ?_
    refine r_eqi hEv.1 ?_
    refine r_iload2 X dX2_choose_6 ?_
    refine r_isub X dX2_choose_7 ?_
    refine r_icmp_le (tgt := 12) X dX2_choose_8 ⟨⟨by omega, by omega⟩, by omega, by omega⟩ (fun h8 => ?_) (fun h8 => ?_)
    · refine r_iload2 X dX2_choose_12 ?_
      refine r_aload0 X dX2_choose_13 ?_
      refine r_get X 5 dX2_choose_14 z_c72 in_X2 tw_174 (by decide) rfl rfl (by decide) ?_
      refine r_eqi hEv.1 ?_
      refine r_icmp_lt (tgt := 29) X dX2_choose_17 ⟨⟨by omega, by omega⟩, by omega, by omega⟩ (fun h17 => ?_) (fun h17 => ?_)
      · refine r_iconst X dX2_choose_29 ?_
        refine r_istore7 X dX2_choose_30 ?_
        have L : ∀ (fu : Nat) (i : Int) (d : Nat) (o8 : Option Value) (c1 : zAcc) (σ1 : zSt), (vn V (K : Int) - i) < (fu : Int) → i = (d : Int) → (d : Int) ≤ vn V (K : Int) → c1 = sp_lp (cstep (vok V (K : Int) gt) (vst V (K : Int) gt) (vso V (K : Int)) (vn V (K : Int)).toNat r t tk g s0) d c0 → AccC σ1 V (K : Int) c1 → cEv σ1 V (K : Int) gt → zFS σ σ1 t → z_G pg l e (z_rm (4 + (r + 1))) s mm ([.ref (a 72), .ref (a (1 + 4 + 4 * K)), .int (zI (t : Int)), .int (zI (u : Int)), .int (zI sl), .int (zI g), .int (zI s0)] : List Value).toArray below meth c 9 D κ a A 0 0 (MQ below (z_Qq D κ a A (fun σ' => AccC σ' V (K : Int) (cdfs (vok V (K : Int) gt) (vst V (K : Int) gt) (vso V (K : Int)) (vn V (K : Int)).toNat (r + 1) t tk g s0 c0) ∧ cEv σ' V (K : Int) gt ∧ zFS σ σ' t)) ([.ref (a 72), .ref (a (1 + 4 + 4 * K)), .int (zI (t : Int)), .int (zI (u : Int)), .int (zI sl), .int (zI g), .int (zI s0)] : List Value).toArray s 0 0 A) σ1 [some (.ref (a 72)), some (.ref (a (1 + 4 + 4 * K))), some (.int (zI (t : Int))), some (.int (zI (u : Int))), some (.int (zI sl)), some (.int (zI g)), some (.int (zI s0)), some (.int (zI i)), o8] 32 [] := by
          intro fu
          induction fu with
          | zero =>
            intro i d o8 c1 σ1 hn hid h1 hc1 hA1 hE1 hF
            omega
          | succ fu ihL =>
            intro i d o8 c1 σ1 hn hid h1 hc1 hA1 hE1 hF
            refine r_iload7 X dX2_choose_32 ?_
            refine r_aload1 X dX2_choose_34 ?_
            refine r_get X 3 dX2_choose_35 (z_cPic hq) in_X0 tw_79 (Nat.lt_of_le_of_lt (Nat.le_add_right _ 3) (z_pic.lt hq)) rfl rfl (by decide) ?_
            refine r_eqi (y := vn V (K : Int)) (by rw [hF.1 _ (by omega) (by omega) (by omega) (by omega)]; exact hpk.1) ?_
            refine r_icmp_ge (tgt := 159) X dX2_choose_38 ⟨⟨by omega, by omega⟩, by omega, by omega⟩ (fun h38 => ?_) (fun h38 => ?_)
            · have e9 : c1 = sp_lp (cstep (vok V (K : Int) gt) (vst V (K : Int) gt) (vso V (K : Int)) (vn V (K : Int)).toNat r t tk g s0) (vn V (K : Int)).toNat c0 := by
                rw [hc1]
                congr 1
                omega
              exact r_vretp X M dX2_choose_159 ⟨by rw [cdfs_s (by omega), ← e9]; exact hA1, hE1, hF⟩
            · subst hid
              have hd7 : d < 7 := by omega
              have hdn : (d : Int) < vn V (K : Int) := by omega
              have hgt7 : (K : Int) ≠ 0 → 0 ≤ gt t ∧ gt t < 7 := fun q => ((hE1.2.2.2 q).2 t htN).2
              have hsp := stp_ok hV hK (gt := gt) (tk := tk) (t := t) (d := d) hgt7 hd7
              have hbit := hu.2 d hd7
              have hstv := hE1.2.1 t (d : Int) htN (by omega) hdn
              have hc01 := hA1.2.1
              refine r_aload0 X dX2_choose_41 ?_
              refine r_get X 9 dX2_choose_42 z_c72 in_X2 tw_178 (by decide) rfl rfl (by decide) ?_
              refine r_iload2 X dX2_choose_45 ?_
              refine r_bipush X dX2_choose_46 (by decide +kernel) ?_
              refine r_imul X dX2_choose_48 ?_
              refine r_iload7 X dX2_choose_49 ?_
              refine r_iadd X dX2_choose_51 ?_
              refine r_iald X dX2_choose_52 z_c78 (by decide) ⟨by omega, by omega⟩ ?_
              refine r_eqi hstv ?_
              refine r_istore8 X dX2_choose_53 ?_
              refine r_iload3 X dX2_choose_55 ?_
              refine r_iload7 X dX2_choose_56 ?_
              refine r_ishr X dX2_choose_58 ⟨hu.1, hd7⟩ ?_
              refine r_iconst X dX2_choose_59 ?_
              refine r_iand X dX2_choose_60 (by have := Nat.div_le_self u (2 ^ d); have := hu.1; omega) ?_
              refine r_if_ne (tgt := 153) X dX2_choose_61 ⟨by omega, by omega⟩ (fun h61 => ?_) (fun h61 => ?_)
              · have hkeep : c1 = sp_lp (cstep (vok V (K : Int) gt) (vst V (K : Int) gt) (vso V (K : Int)) (vn V (K : Int)).toNat r t tk g s0) (d + 1) c0 := by
                  show c1 = (cstep (vok V (K : Int) gt) (vst V (K : Int) gt) (vso V (K : Int)) (vn V (K : Int)).toNat r t tk g s0) d (sp_lp (cstep (vok V (K : Int) gt) (vst V (K : Int) gt) (vso V (K : Int)) (vn V (K : Int)).toNat r t tk g s0) d c0)
                  rw [← hc1]
                  unfold cstep
                  rw [cIf_f (fun q => by obtain ⟨i, hi, e⟩ := hbit.mp (by omega); exact q.1.1 i hi e)]
                refine r_iinc7 X dX2_choose_153 ?_
                refine r_goto (tgt := 32) X dX2_choose_156 (by decide) ?_
                first
                | exact ihL ((d : Int) + 1) (d + 1) _ c1 _ (by omega) (by omega) (by omega) hkeep hA1 hE1 hF
                | exact ihL ((d : Int) + 1) (d + 1) _ c1 _ (by omega) (by omega) (by omega) hkeep hA3 hE3 hF3
                | exact ihL ((d : Int) + 1) (d + 1) _ _ _ (by omega) (by omega) (by omega) hnew h5.1 h5.2.1 hF6
              · refine r_iload8 X dX2_choose_64 ?_
                refine r_iconst X dX2_choose_66 ?_
                refine r_icmp_eq (tgt := 153) X dX2_choose_67 ⟨⟨by omega, by omega⟩, by omega, by omega⟩ (fun h67 => ?_) (fun h67 => ?_)
                · have hkeep : c1 = sp_lp (cstep (vok V (K : Int) gt) (vst V (K : Int) gt) (vso V (K : Int)) (vn V (K : Int)).toNat r t tk g s0) (d + 1) c0 := by
                    show c1 = (cstep (vok V (K : Int) gt) (vst V (K : Int) gt) (vso V (K : Int)) (vn V (K : Int)).toNat r t tk g s0) d (sp_lp (cstep (vok V (K : Int) gt) (vst V (K : Int) gt) (vso V (K : Int)) (vn V (K : Int)).toNat r t tk g s0) d c0)
                    rw [← hc1]
                    unfold cstep
                    rw [cIf_f (fun q => by have h9 := hsp.2.1 h67; rcases q.1.2 with q1 | q1; exact h9.1 q1; exact h9.2 q1.1)]
                  refine r_iinc7 X dX2_choose_153 ?_
                  refine r_goto (tgt := 32) X dX2_choose_156 (by decide) ?_
                  first
                  | exact ihL ((d : Int) + 1) (d + 1) _ c1 _ (by omega) (by omega) (by omega) hkeep hA1 hE1 hF
                  | exact ihL ((d : Int) + 1) (d + 1) _ c1 _ (by omega) (by omega) (by omega) hkeep hA3 hE3 hF3
                  | exact ihL ((d : Int) + 1) (d + 1) _ _ _ (by omega) (by omega) (by omega) hnew h5.1 h5.2.1 hF6
                · refine r_aload0 X dX2_choose_70 ?_
                  refine r_iload5 X dX2_choose_71 ?_
                  refine r_iload8 X dX2_choose_73 ?_
                  refine r_mmax X dX2_choose_75 ⟨⟨by omega, by omega⟩, by omega, by omega⟩ tw_427 tw_428 tw_47 tw_429 ⟨by show _ ≤ 4 + (r + 1); omega, show _ ≤ 64 * (4 + (r + 1)) from Nat.le_trans (m := 64) (Nat.le_of_ble_eq_true rfl) (by omega)⟩ ?_
                  refine r_iload6 X dX2_choose_78 ?_
                  refine r_iload8 X dX2_choose_80 ?_
                  refine r_iadd X dX2_choose_82 ?_
                  refine r_callVp (n := 2) X (c_X2_isBetter l X.2.2.1 _ _ _ c1 V (K : Int) hA1 ⟨by omega, by omega⟩ ⟨by omega, by omega⟩) dX2_choose_83 tw_445 tw_447 tw_8 tw_44 tw_448 z_c72 (by decide) rfl rfl (Nat.le_of_ble_eq_true rfl) ⟨by show _ ≤ 4 + (r + 1); omega, by show _ ≤ 64 * (4 + (r + 1)); omega⟩ (by decide +kernel) rfl (fun z1 σ2 h2 => ?_)
                  have hs2 := h2.1.symm
                  subst hs2
                  refine r_if_eq (tgt := 153) X dX2_choose_86 ⟨by omega, by omega⟩ (fun h86 => ?_) (fun h86 => ?_)
                  · have hkeep : c1 = sp_lp (cstep (vok V (K : Int) gt) (vst V (K : Int) gt) (vso V (K : Int)) (vn V (K : Int)).toNat r t tk g s0) (d + 1) c0 := by
                      show c1 = (cstep (vok V (K : Int) gt) (vst V (K : Int) gt) (vso V (K : Int)) (vn V (K : Int)).toNat r t tk g s0) d (sp_lp (cstep (vok V (K : Int) gt) (vst V (K : Int) gt) (vso V (K : Int)) (vn V (K : Int)).toNat r t tk g s0) d c0)
                      rw [← hc1]
                      unfold cstep
                      rw [cIf_f (fun q => by have q2 := q.2; have h9 := h2.2.2.mpr (by rw [(hsp.1 h67).1]; exact q2); omega)]
                    refine r_iinc7 X dX2_choose_153 ?_
                    refine r_goto (tgt := 32) X dX2_choose_156 (by decide) ?_
                    first
                    | exact ihL ((d : Int) + 1) (d + 1) _ c1 _ (by omega) (by omega) (by omega) hkeep hA1 hE1 hF
                    | exact ihL ((d : Int) + 1) (d + 1) _ c1 _ (by omega) (by omega) (by omega) hkeep hA3 hE3 hF3
                    | exact ihL ((d : Int) + 1) (d + 1) _ _ _ (by omega) (by omega) (by omega) hnew h5.1 h5.2.1 hF6
                  · refine r_aload0 X dX2_choose_89 ?_
                    refine r_aload1 X dX2_choose_90 ?_
                    refine r_iload2 X dX2_choose_91 ?_
                    refine r_iload7 X dX2_choose_92 ?_
                    refine r_callVp (n := 3) X (c_X2_isClear l X.2.2.1 _ K hK t _ tk gt V hV (hC.of (fun c hc => hF.1 c (by omega) (by omega) (by omega) (by omega))) hKV hE1 htN (fun i hi => by rw [hF.2.2 i hi]; exact htk i hi) ⟨by omega, by omega⟩) dX2_choose_94 tw_449 tw_451 tw_9 tw_44 tw_452 z_c72 (by decide) rfl rfl (Nat.le_of_ble_eq_true rfl) ⟨by show _ ≤ 4 + (r + 1); omega, by show _ ≤ 64 * (4 + (r + 1)); omega⟩ (by decide +kernel) rfl (fun z3 σ3 h3 => ?_)
                    have hE3 : cEv σ3 V (K : Int) gt := hE1.of (by rw [h3.1 72 (by decide)]) (by rw [h3.1 72 (by decide)]) (h3.1 78 (by decide)) (h3.1 75 (by decide)) (h3.1 76 (by decide)) h3.2.1
                    have hA3 : AccC σ3 V (K : Int) c1 := hA1.of (h3.1 72 (by decide)) (h3.1 73 (by decide))
                    have hF3 : zFS σ σ3 t := ⟨fun c a b d e => (h3.1 c e).trans (hF.1 c a b d e), fun j hj => by rw [h3.1 72 (by decide)]; exact hF.2.1 j hj, fun i hi => by rw [h3.1 77 (by decide)]; exact hF.2.2 i hi⟩
                    refine r_if_eq (tgt := 153) X dX2_choose_97 ⟨by omega, by omega⟩ (fun h97 => ?_) (fun h97 => ?_)
                    · have hkeep : c1 = sp_lp (cstep (vok V (K : Int) gt) (vst V (K : Int) gt) (vso V (K : Int)) (vn V (K : Int)).toNat r t tk g s0) (d + 1) c0 := by
                        show c1 = (cstep (vok V (K : Int) gt) (vst V (K : Int) gt) (vso V (K : Int)) (vn V (K : Int)).toNat r t tk g s0) d (sp_lp (cstep (vok V (K : Int) gt) (vst V (K : Int) gt) (vso V (K : Int)) (vn V (K : Int)).toNat r t tk g s0) d c0)
                        rw [← hc1]
                        unfold cstep
                        rw [cIf_f (fun q => by have h9 := h3.2.2.2.mpr (fun i hi n => by rcases q.1.2 with q1 | q1; exact n.1 q1; exact q1.2 i hi n.2); omega)]
                      refine r_iinc7 X dX2_choose_153 ?_
                      refine r_goto (tgt := 32) X dX2_choose_156 (by decide) ?_
                      first
                      | exact ihL ((d : Int) + 1) (d + 1) _ c1 _ (by omega) (by omega) (by omega) hkeep hA1 hE1 hF
                      | exact ihL ((d : Int) + 1) (d + 1) _ c1 _ (by omega) (by omega) (by omega) hkeep hA3 hE3 hF3
                      | exact ihL ((d : Int) + 1) (d + 1) _ _ _ (by omega) (by omega) (by omega) hnew h5.1 h5.2.1 hF6
                    · have hunu : ∀ i, i < t → tk i ≠ (d : Int) := fun i hi e => by have := hbit.mpr ⟨i, hi, e⟩; omega
                      have hok : vok V (K : Int) gt t tk d := ⟨hunu, by
                        rcases (hsp.1 h67).2 with q | q
                        · exact Or.inl q
                        · by_cases q0 : (K : Int) = 0
                          · exact Or.inl q0
                          · exact Or.inr ⟨q, fun i hi n => h3.2.2.2.mp (by omega) i hi ⟨q0, n⟩⟩⟩
                      have hvst := (hsp.1 h67).1
                      have hb5 : better (max g (vst V (K : Int) gt t d)) (s0 + vst V (K : Int) gt t d) c1 := by rw [← hvst]; exact h2.2.2.mp (by omega)
                      have hF4 : zFS σ (z_up σ3 77 (t : Int) (d : Int)) t := ⟨fun c a b d e => by rw [z_up_c d]; exact hF3.1 c a b d e, fun j hj => by rw [z_up_c (by decide)]; exact hF3.2.1 j hj, fun i hi => by rw [z_up_j (by omega)]; exact hF3.2.2 i hi⟩
                      have hE5 : cEv (z_up σ3 77 (t : Int) (d : Int)) V (K : Int) gt := hE3.of (by rw [z_up_c (by decide)]) (by rw [z_up_c (by decide)]) (z_up_c (by decide)) (z_up_c (by decide)) (z_up_c (by decide)) (hE3.2.2.1.of (z_up_c (by decide)))
                      have hA5 : AccC (z_up σ3 77 (t : Int) (d : Int)) V (K : Int) c1 := hA3.of (z_up_c (by decide)) (z_up_c (by decide))
                      have hC5 : cSee (z_up σ3 77 (t : Int) (d : Int)) V := hC.of (fun c hc => hF4.1 c (by omega) (by omega) (by omega) (by omega))
                      have hu5 : u + 2 ^ d < 128 ∧ ∀ e : Nat, e < 7 → ((u + 2 ^ d) / 2 ^ e % 2 = 1 ↔ ∃ i, i < t + 1 ∧ tkU tk t (d : Int) i = (e : Int)) := by
                        refine ⟨zb_bit1 u hu.1 d hd7 (by omega), fun e he => ?_⟩
                        rw [zb_bit2 hu.1 hd7 he (by omega), hu.2 e he]
                        constructor
                        · rintro (q | ⟨i, hi, q⟩)
                          · exact ⟨t, by omega, by rw [tkU_s, q]⟩
                          · exact ⟨i, by omega, by rw [tkU_n (by omega)]; exact q⟩
                        · rintro ⟨i, hi, q⟩
                          by_cases e2 : i = t
                          · rw [e2, tkU_s] at q
                            exact Or.inl (by omega)
                          · rw [tkU_n e2] at q
                            exact Or.inr ⟨i, by omega, q⟩
                      have hust := unf_step (vso V (K : Int)) tk t d (vn V (K : Int)).toNat
                      have htk5 : ∀ i : Nat, i < t + 1 → z_up σ3 77 (t : Int) (d : Int) 77 (i : Int) = tkU tk t (d : Int) i ∧ 0 ≤ tkU tk t (d : Int) i ∧ tkU tk t (d : Int) i < vn V (K : Int) := fun i hi => by
                        by_cases e2 : i = t
                        · rw [e2, z_up_s, tkU_s]; omega
                        · rw [z_up_j (by omega), tkU_n e2, hF3.2.2 i (by omega)]; exact htk i (by omega)
                      have hs3 : σ3 ((1 + 4 + 4 * K) + 3) (d : Int) = V (28 + (3 * (7 * (K : Int) + (d : Int)) + 2)) := by
                        rw [hF3.1 _ (by omega) (by omega) (by omega) (by omega)]
                        exact (hpk.2.2 (d : Int) (by omega) (by omega)).2.2
                      have hs01 := hV.2.2.2.2.2 (7 * (K : Int) + (d : Int)) (by omega) (by omega)
                      rw [show 30 + 3 * (7 * (K : Int) + (d : Int)) = 28 + (3 * (7 * (K : Int) + (d : Int)) + 2) by omega] at hs01
                      refine r_aload0 X dX2_choose_100 ?_
                      refine r_get X 8 dX2_choose_101 z_c72 in_X2 tw_177 (by decide) rfl rfl (by decide) ?_
                      refine r_iload2 X dX2_choose_104 ?_
                      refine r_iload7 X dX2_choose_105 ?_
                      refine r_iast X dX2_choose_107 z_c77 (by decide) ⟨by omega, by omega⟩ ?_
                      refine r_aload0 X dX2_choose_108 ?_
                      refine r_aload1 X dX2_choose_109 ?_
                      refine r_iload2 X dX2_choose_110 ?_
                      refine r_iconst X dX2_choose_111 ?_
                      refine r_iadd X dX2_choose_112 ?_
                      refine r_iload3 X dX2_choose_113 ?_
                      refine r_iconst X dX2_choose_114 ?_
                      refine r_iload7 X dX2_choose_115 ?_
                      refine r_ishl X dX2_choose_117 hd7 ?_
                      refine r_ior X dX2_choose_118 ⟨hu.1, hd7, by omega⟩ ?_
                      refine r_aload1 X dX2_choose_119 ?_
                      refine r_get X 2 dX2_choose_120 (z_cPic hq) in_X0 tw_76 (Nat.lt_of_le_of_lt (Nat.le_add_right _ 3) (z_pic.lt hq)) rfl rfl (by decide) ?_
                      refine r_iload7 X dX2_choose_123 ?_
                      refine r_zald X dX2_choose_125 (z_cPic3 hq) (z_pic.lt hq) ⟨by omega, by omega⟩ ?_
                      refine r_eqi (y := V (28 + (3 * (7 * (K : Int) + (d : Int)) + 2))) (by rw [z_up_c (by omega)]; exact hs3) ?_
                      refine r_if_eq (tgt := 136) X dX2_choose_126 ⟨by omega, by omega⟩ (fun h126 => ?_) (fun h126 => ?_)
                      · have hsl5 : sl = ((unf (vso V (K : Int)) (tkU tk t (d : Int)) (t + 1) (vn V (K : Int)).toNat : Nat) : Int) := by
                          rw [cIf_f (fun q => by have q1 : V _ = 1 := q.2.1; omega)] at hust
                          omega
                        refine r_iload4 X dX2_choose_136 ?_
                        refine r_iload5 X dX2_choose_138 ?_
                        refine r_iload8 X dX2_choose_140 ?_
                        refine r_mmax X dX2_choose_142 ⟨⟨by omega, by omega⟩, by omega, by omega⟩ tw_427 tw_428 tw_47 tw_429 ⟨by show _ ≤ 4 + (r + 1); omega, show _ ≤ 64 * (4 + (r + 1)) from Nat.le_trans (m := 64) (Nat.le_of_ble_eq_true rfl) (by omega)⟩ ?_
                        refine r_eqi (y := max g (vst V (K : Int) gt t d)) (by rw [hvst]) ?_
                        refine r_iload6 X dX2_choose_145 ?_
                        refine r_iload8 X dX2_choose_147 ?_
                        refine r_iadd X dX2_choose_149 ?_
                        refine r_eqi (y := s0 + vst V (K : Int) gt t d) (by rw [hvst]) ?_
                        refine r_callVq (n := 6) X (ih (t + 1) (tkU tk t (d : Int)) (u + 2 ^ d) _ (max g (vst V (K : Int) gt t d)) (s0 + vst V (K : Int) gt t d) c1 _ (by omega) hu5 hsl5 (by omega) htk5 hA5 hE5 hC5) dX2_choose_150 tw_460 tw_436 tw_6 tw_44 tw_437 z_c72 (by decide) rfl rfl (Nat.le_of_ble_eq_true rfl) ⟨by show _ ≤ 4 + (r + 1); omega, by show _ ≤ 64 * (4 + (r + 1)); omega⟩ (by decide +kernel) rfl (fun σ5 h5 => ?_)
                        have hF6 : zFS σ σ5 t := hF4.trans h5.2.2 (by omega)
                        have hnew : cdfs (vok V (K : Int) gt) (vst V (K : Int) gt) (vso V (K : Int)) (vn V (K : Int)).toNat r (t + 1) (tkU tk t (d : Int)) (max g (vst V (K : Int) gt t d)) (s0 + vst V (K : Int) gt t d) c1 = sp_lp (cstep (vok V (K : Int) gt) (vst V (K : Int) gt) (vso V (K : Int)) (vn V (K : Int)).toNat r t tk g s0) (d + 1) c0 := by
                          show _ = (cstep (vok V (K : Int) gt) (vst V (K : Int) gt) (vso V (K : Int)) (vn V (K : Int)).toNat r t tk g s0) d (sp_lp (cstep (vok V (K : Int) gt) (vst V (K : Int) gt) (vso V (K : Int)) (vn V (K : Int)).toNat r t tk g s0) d c0)
                          rw [← hc1]
                          unfold cstep
                          rw [cIf_t ⟨hok, hb5⟩]
                        refine r_iinc7 X dX2_choose_153 ?_
                        refine r_goto (tgt := 32) X dX2_choose_156 (by decide) ?_
                        first
                        | exact ihL ((d : Int) + 1) (d + 1) _ c1 _ (by omega) (by omega) (by omega) hkeep hA1 hE1 hF
                        | exact ihL ((d : Int) + 1) (d + 1) _ c1 _ (by omega) (by omega) (by omega) hkeep hA3 hE3 hF3
                        | exact ihL ((d : Int) + 1) (d + 1) _ _ _ (by omega) (by omega) (by omega) hnew h5.1 h5.2.1 hF6
                      · have hsl5 : sl - 1 = ((unf (vso V (K : Int)) (tkU tk t (d : Int)) (t + 1) (vn V (K : Int)).toNat : Nat) : Int) := by
                          rw [cIf_t ⟨by omega, by show V _ = 1; omega, hunu⟩] at hust
                          omega
                        refine r_iload4 X dX2_choose_129 ?_
                        refine r_iconst X dX2_choose_131 ?_
                        refine r_isub X dX2_choose_132 ?_
                        refine r_goto (tgt := 138) X dX2_choose_133 (by decide) ?_
                        refine r_iload5 X dX2_choose_138 ?_
                        refine r_iload8 X dX2_choose_140 ?_
                        refine r_mmax X dX2_choose_142 ⟨⟨by omega, by omega⟩, by omega, by omega⟩ tw_427 tw_428 tw_47 tw_429 ⟨by show _ ≤ 4 + (r + 1); omega, show _ ≤ 64 * (4 + (r + 1)) from Nat.le_trans (m := 64) (Nat.le_of_ble_eq_true rfl) (by omega)⟩ ?_
                        refine r_eqi (y := max g (vst V (K : Int) gt t d)) (by rw [hvst]) ?_
                        refine r_iload6 X dX2_choose_145 ?_
                        refine r_iload8 X dX2_choose_147 ?_
                        refine r_iadd X dX2_choose_149 ?_
                        refine r_eqi (y := s0 + vst V (K : Int) gt t d) (by rw [hvst]) ?_
                        refine r_callVq (n := 6) X (ih (t + 1) (tkU tk t (d : Int)) (u + 2 ^ d) _ (max g (vst V (K : Int) gt t d)) (s0 + vst V (K : Int) gt t d) c1 _ (by omega) hu5 hsl5 (by omega) htk5 hA5 hE5 hC5) dX2_choose_150 tw_460 tw_436 tw_6 tw_44 tw_437 z_c72 (by decide) rfl rfl (Nat.le_of_ble_eq_true rfl) ⟨by show _ ≤ 4 + (r + 1); omega, by show _ ≤ 64 * (4 + (r + 1)); omega⟩ (by decide +kernel) rfl (fun σ5 h5 => ?_)
                        have hF6 : zFS σ σ5 t := hF4.trans h5.2.2 (by omega)
                        have hnew : cdfs (vok V (K : Int) gt) (vst V (K : Int) gt) (vso V (K : Int)) (vn V (K : Int)).toNat r (t + 1) (tkU tk t (d : Int)) (max g (vst V (K : Int) gt t d)) (s0 + vst V (K : Int) gt t d) c1 = sp_lp (cstep (vok V (K : Int) gt) (vst V (K : Int) gt) (vso V (K : Int)) (vn V (K : Int)).toNat r t tk g s0) (d + 1) c0 := by
                          show _ = (cstep (vok V (K : Int) gt) (vst V (K : Int) gt) (vso V (K : Int)) (vn V (K : Int)).toNat r t tk g s0) d (sp_lp (cstep (vok V (K : Int) gt) (vst V (K : Int) gt) (vso V (K : Int)) (vn V (K : Int)).toNat r t tk g s0) d c0)
                          rw [← hc1]
                          unfold cstep
                          rw [cIf_t ⟨hok, hb5⟩]
                        refine r_iinc7 X dX2_choose_153 ?_
                        refine r_goto (tgt := 32) X dX2_choose_156 (by decide) ?_
                        first
                        | exact ihL ((d : Int) + 1) (d + 1) _ c1 _ (by omega) (by omega) (by omega) hkeep hA1 hE1 hF
                        | exact ihL ((d : Int) + 1) (d + 1) _ c1 _ (by omega) (by omega) (by omega) hkeep hA3 hE3 hF3
                        | exact ihL ((d : Int) + 1) (d + 1) _ _ _ (by omega) (by omega) (by omega) hnew h5.1 h5.2.1 hF6
        exact L 9 0 0 none c0 σ (by omega) rfl (by omega) rfl hAc hEv (zFS.refl _ _)
      · exfalso
        omega
    · exact r_vretp X M dX2_choose_11 ⟨by rw [cdfs_f (by omega)]; exact hAc, hEv, zFS.refl _ _⟩

