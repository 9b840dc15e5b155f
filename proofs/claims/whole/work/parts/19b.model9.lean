theorem AccM.fc {σ σ1 : zSt} {V : zV} {p q : Int} {c : zAcc} (h : AccM σ V q c) (hv : 0 ≤ V 0 ∧ V 0 ≤ 6) (hF : zFC σ σ1 p) (hq : q ≠ p) : AccM σ1 V q c := by
  obtain ⟨h1, h2, h3⟩ := h
  obtain ⟨a, b, d⟩ := hF
  have hb := b q hq
  refine ⟨hb.1.trans h1, h2, fun e => ?_⟩
  obtain ⟨e1, e2, e3⟩ := h3 e
  refine ⟨hb.2.1.trans e1, hb.2.2.trans e2, fun t ht => ?_⟩
  have hw := (vw_in ht).1
  rw [d _ (by omega)]
  exact e3 t ht
/-- all settings are found; nothing else has changed -/
def zFD (σ σ' : zSt) (V : zV) : Prop := (∀ c : Nat, c < 88 ∨ 94 ≤ c → σ' c = σ c) ∧ zWho σ' ∧ ∀ K : Nat, (K : Int) < V 1 → AccM σ' V (K : Int) (vS V K)

set_option maxRecDepth 100000 in
set_option maxHeartbeats 4000000 in
theorem c_X6_findAll (l : Launch) {D : va_G} {κ : Nat → ClassId} {a : Nat → Nat} {A : Nat → Prop} (hA : z_aD a A) (σ : zSt) (V : zV) (hV : v_ok V) (hM : zModel σ V) (hW : zWho σ) : z_Tq l D κ a A yX6_findAll cX6_findAll 2 none 5 [.ref (a 80)] σ (fun σ' => zFD σ σ' V) := by
  refine z_Tq_of (cc := cX6_findAll) (maxL := 2) (ret := none) (own := RX6) (lv0 := [some (.ref (a 80)), none]) hA (by decide) rfl (Nat.le_of_ble_eq_true rfl) rfl ?_
  intro pg e s mm below meth c X M
  obtain ⟨⟨hv0, hv1, hv2, hv3, hv4, hv5⟩, hvm, hvb, hvk, hvc, hvd⟩ := id hV
  refine r_iconst X dX6_findAll_0 ?_
  refine r_istore1 X dX6_findAll_1 ?_
  have L : ∀ (fu : Nat) (i : Int) (K : Nat) (σ1 : zSt), (V 1 - i) < (fu : Int) → i = (K : Int) → i ≤ V 1 → (∀ c : Nat, c < 88 ∨ 94 ≤ c → σ1 c = σ c) → zWho σ1 → (∀ K1 : Nat, K1 < K → AccM σ1 V (K1 : Int) (vS V K1)) → z_G pg l e (z_rm 5) s mm ([.ref (a 80)] : List Value).toArray below meth c 2 D κ a A 0 0 (MQ below (z_Qq D κ a A (fun σ' => zFD σ σ' V)) ([.ref (a 80)] : List Value).toArray s 0 0 A) σ1 [some (.ref (a 80)), some (.int (zI i))] 2 [] := by
    intro fu
    induction fu with
    | zero =>
      intro i K σ1 hn hiK h1 hU1 hW1 hD
      omega
    | succ fu ihL =>
      intro i K σ1 hn hiK h1 hU1 hW1 hD
      refine r_iload1 X dX6_findAll_2 ?_
      refine r_aload0 X dX6_findAll_3 ?_
      refine r_get X 0 dX6_findAll_4 z_c80 in_X6 tw_558 (by decide) rfl rfl (by decide) ?_
      refine r_iconst X dX6_findAll_7 ?_
      refine r_iald X dX6_findAll_8 z_c81 (by decide) ⟨by omega, by omega⟩ ?_
      refine r_eqi (y := V 1) (by rw [hU1 81 (by decide)]; exact hM.1 1 (by omega) (by omega)) ?_
      refine r_icmp_ge (tgt := 23) X dX6_findAll_9 ⟨⟨by omega, by omega⟩, by omega, by omega⟩ (fun h9 => ?_) (fun h9 => ?_)
      · exact r_vretp X M dX6_findAll_23 ⟨hU1, hW1, fun K1 hK1 => hD K1 (by omega)⟩
      · subst hiK
        refine r_aload0 X dX6_findAll_12 ?_
        refine r_iload1 X dX6_findAll_13 ?_
        refine r_callVq (n := 1) X (c_X6_seek l X.2.2.1 _ K V hV (hM.of (hU1 81 (by decide)) (hU1 82 (by decide)) (hU1 83 (by decide)) (hU1 84 (by decide))) (by omega) hW1 (fun K' e => hD K' (by omega))) dX6_findAll_14 tw_719 tw_721 tw_25 tw_46 tw_722 z_c80 (by decide) rfl rfl (Nat.le_of_ble_eq_true rfl) ⟨by decide, by decide⟩ (by decide +kernel) rfl (fun σ2 h2 => ?_)
        refine r_iinc1 X dX6_findAll_17 ?_
        refine r_goto (tgt := 2) X dX6_findAll_20 (by decide) ?_
        exact ihL ((K : Int) + 1) (K + 1) _ (by omega) (by omega) (by omega) (fun c hc => (h2.2.1.1 c hc).trans (hU1 c hc)) h2.2.2 (fun K1 hK1 => by by_cases e : K1 = K; (rw [e]; exact h2.1); exact (hD K1 (by omega)).fc hv0 h2.2.1 (by omega))
  exact L 8 0 0 σ (by omega) rfl (by omega) (fun _ _ => rfl) hW (fun K1 h => by omega)

