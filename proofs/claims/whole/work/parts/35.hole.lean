theorem v_ok_ill {V : zV} (hV : v_ok V) {m i : Int} (hm : 0 ≤ m ∧ m < 6) (hi : i = 0 ∨ i = 1) : v_ok (u_ill V m i) := by
  obtain ⟨⟨hv0, hv1, hv2, hv3, hv4, hv5⟩, hvm, hvb, hvk, hvc, hvd⟩ := hV
  unfold v_ok u_ill z_upf
  refine ⟨⟨?_, ?_, ?_, ?_, ?_, ?_⟩, fun m2 a b => ?_, fun m2 a b => ?_, fun k a b => ?_, fun k a b => ?_, fun j a b => ?_⟩
  · rw [if_neg (by omega)]; exact hv0
  · rw [if_neg (by omega)]; exact hv1
  · rw [if_neg (by omega)]; exact hv2
  · rw [if_neg (by omega)]; exact hv3
  · rw [if_neg (by omega)]; exact hv4
  · rw [if_neg (by omega)]; exact hv5
  · have := hvm m2 a b
    rw [if_neg (by omega)]
    refine ⟨this.1, ?_⟩
    split <;> omega
  · rw [if_neg (by omega)] at b ⊢; exact hvb m2 a b
  · rw [if_neg (by omega), if_neg (by omega)]; exact hvk k a b
  · rw [if_neg (by omega)] at b ⊢; exact hvc k a b
  · rw [if_neg (by omega), if_neg (by omega), if_neg (by omega)]; exact hvd j a b
theorem u_ill_n {V : zV} {m i j : Int} (h : j ≠ 6 + (2 * m + 1)) : u_ill V m i j = V j := z_upf_n h
theorem u_ill_s (V : zV) (m i : Int) : u_ill V m i (6 + (2 * m + 1)) = i := z_upf_s _ _ _
/-- how many of the first j marchers who stay change in picture k when m falls ill -/
noncomputable def hc (V : zV) (m k : Int) : Nat → Int
  | 0 => 0
  | j + 1 => hc V m k j + (if V (6 + (2 * (j : Int) + 1)) = 0 ∧ (j : Int) ≠ m ∧ (vfd V k ≠ vfd (u_ill V m 1) k ∨ (vfd (u_ill V m 1) k = 1 ∧ sd V k (j : Int) ≠ sd (u_ill V m 1) k (j : Int))) then 1 else 0)
noncomputable def hs (V : zV) (m : Int) : Nat → Int
  | 0 => 0
  | k + 1 => hs V m k + hc V m (k : Int) (V 0).toNat
noncomputable def s_hole (V : zV) (m : Int) : Int := if 0 ≤ m ∧ m < V 0 then (if V (6 + (2 * m + 1)) = 1 then -5 else hs V m (V 1).toNat) else -1
theorem hc_s {V : zV} {m k j : Int} (h : 0 ≤ j) : hc V m k (j + 1).toNat = hc V m k j.toNat + (if V (6 + (2 * j + 1)) = 0 ∧ j ≠ m ∧ (vfd V k ≠ vfd (u_ill V m 1) k ∨ (vfd (u_ill V m 1) k = 1 ∧ sd V k j ≠ sd (u_ill V m 1) k j)) then 1 else 0) := by
  rw [show (j + 1).toNat = j.toNat + 1 by omega]
  show hc V m k j.toNat + _ = _
  rw [show ((j.toNat : Nat) : Int) = j by omega]
theorem hs_s {V : zV} {m k : Int} (h : 0 ≤ k) : hs V m (k + 1).toNat = hs V m k.toNat + hc V m k (V 0).toNat := by
  rw [show (k + 1).toNat = k.toNat + 1 by omega]
  show hs V m k.toNat + _ = _
  rw [show ((k.toNat : Nat) : Int) = k by omega]
theorem hc_all {V : zV} {m k : Int} (h : vfd V k ≠ vfd (u_ill V m 1) k) (hm : 0 ≤ m) (h0 : V (6 + (2 * m + 1)) = 0) : ∀ n : Nat, hc V m k n = ((vWl V n).length : Int) - (if m < (n : Int) then 1 else 0)
  | 0 => by
    rw [if_neg (by omega)]
    rfl
  | n + 1 => by
    have ih := hc_all h hm h0 n
    have e : hc V m k (n + 1) = hc V m k n + (if V (6 + (2 * (n : Int) + 1)) = 0 ∧ (n : Int) ≠ m ∧ (vfd V k ≠ vfd (u_ill V m 1) k ∨ (vfd (u_ill V m 1) k = 1 ∧ sd V k (n : Int) ≠ sd (u_ill V m 1) k (n : Int))) then 1 else 0) := rfl
    have l : ((vWl V (n + 1)).length : Int) = ((vWl V n).length : Int) + (if V (6 + (2 * (n : Int) + 1)) = 0 then 1 else 0) := by
      rw [vWl_s, List.length_append]
      split <;> simp
    have e3 : (n : Int) = m → V (6 + (2 * (n : Int) + 1)) = 0 := fun w => by rw [w]; exact h0
    rw [e, ih, l]
    (repeat' split) <;> omega
theorem hc_none {V : zV} {m k : Int} (h : vfd V k = vfd (u_ill V m 1) k) (h0 : vfd V k = 0) : ∀ n : Nat, hc V m k n = 0
  | 0 => rfl
  | n + 1 => by
    have ih := hc_none h h0 n
    unfold hc
    rw [ih, if_neg (fun w => by have := w.2.2; omega)]
    rfl
theorem cSee_ill {σ : zSt} {V : zV} (h : cSee σ V) {m : Int} (hm : 0 ≤ m ∧ m < 6) (i : Int) : cSee σ (u_ill V m i) := by
  obtain ⟨a1, a2, a3⟩ := h
  refine ⟨?_, fun m2 b c => ?_, fun k hk => ?_⟩
  · rw [u_ill_n (by omega), u_ill_n (by omega), u_ill_n (by omega)]; exact a1
  · rw [u_ill_n (by omega)]; exact a2 m2 b c
  · have q := a3 k hk
    refine ⟨?_, fun r => ?_, fun d d0 d1 => ?_⟩
    · show _ = u_ill V m i (18 + (2 * (k : Int) + 1)); rw [u_ill_n (by omega)]; exact q.1
    · show _ = u_ill V m i (18 + 2 * (k : Int)); rw [u_ill_n (by omega)] at r ⊢; exact q.2.1 r
    · show _ = u_ill V m i (28 + 3 * (7 * (k : Int) + d)) ∧ _ = u_ill V m i (28 + (3 * (7 * (k : Int) + d) + 1)) ∧ _
      rw [u_ill_n (by omega), u_ill_n (by omega), u_ill_n (by omega)]; exact q.2.2 d d0 d1
theorem PlanC.of {σ σ1 : zSt} {V : zV} {b K : Nat} {c : zAcc} (h : PlanC σ V b K c) (e1 : σ1 (b + 1) = σ (b + 1)) (e2 : σ1 (b + 2) = σ (b + 2)) (e3 : σ1 (b + 3) = σ (b + 3)) (e5 : σ1 (b + 5 + K) = σ (b + 5 + K)) : PlanC σ1 V b K c := by
  unfold PlanC
  rw [e1, e2, e3, e5]
  exact h
theorem zPl.of {σ σ1 : zSt} {V : zV} {b : Nat} (h : zPl σ V b) (e : ∀ c : Nat, b ≤ c → c < b + 10 → σ1 c = σ c) (hV : v_ok V) : zPl σ1 V b := by
  have h5 := hV.1.2.1
  refine ⟨by rw [e b (by omega) (by omega)]; exact h.1, fun K k1 k2 => ?_⟩
  rw [e b (by omega) (by omega)] at k1
  exact (h.2 K k1 k2).of (e _ (by omega) (by omega)) (e _ (by omega) (by omega)) (e _ (by omega) (by omega)) (e _ (by omega) (by omega))
theorem zPl.il {σ : zSt} {V : zV} {b : Nat} (h : zPl σ V b) {K : Nat} {m : Int} (k1 : (K : Int) < σ b 5) (k2 : (K : Int) < V 1) (m0 : 0 ≤ m) (m1 : m < 6) (m2 : V (6 + (2 * m + 1)) ≠ 0) : σ (b + 5 + K) m = -1 :=
  (h.2 K k1 k2).2.2 m m0 m1 (Or.inr (fun t ht e => m2 (by rw [← e]; exact (vw_in ht).2)))
/-- both plans are known, with m and without -/
def zHol (σ : zSt) (V : zV) (m : Int) : Prop := zShow σ 1 V ∧ (zPl σ V 52 ∧ V 1 ≤ σ 52 5) ∧ zPl σ (u_ill V m 1) 62 ∧ V 1 ≤ σ 62 5

set_option maxRecDepth 100000 in
set_option maxHeartbeats 4000000 in
theorem c_X5_changesIn (l : Launch) {D : va_G} {κ : Nat → ClassId} {a : Nat → Nat} {A : Nat → Prop} (hA : z_aD a A) (σ : zSt) (k m : Int) (V : zV) (hV : v_ok V) (hk : 0 ≤ k ∧ k < V 1) (hm : 0 ≤ m ∧ m < V 0) (h0 : V (6 + (2 * m + 1)) = 0) (hH : zHol σ V m) : z_Ti l D κ a A yX5_changesIn cX5_changesIn 5 (some .int) 1 [.ref (a 0), .int (zI k), .int (zI m)] σ (hc V m k (V 0).toNat) (σ) := by
  refine z_Ti_of (cc := cX5_changesIn) (maxL := 5) (ret := (some .int)) (own := RX5) (lv0 := [some (.ref (a 0)), some (.int (zI k)), some (.int (zI m)), none, none]) hA (by decide) rfl (Nat.le_of_ble_eq_true rfl) rfl ?_
  intro pg e s mm below meth c X M
  obtain ⟨⟨hv0, hv1, hv2, hv3, hv4, hv5⟩, hvm, hvb, hvk, hvc, hvd⟩ := id hV
  obtain ⟨hS, ⟨hP, hPn⟩, hQ, hQn⟩ := hH
  have e0 : (u_ill V m 1) 0 = V 0 := u_ill_n (by omega)
  have e1 : (u_ill V m 1) 1 = V 1 := u_ill_n (by omega)
  obtain ⟨K, rfl⟩ : ∃ K : Nat, k = (K : Int) := ⟨k.toNat, by omega⟩
  have hK : K < 5 := by omega
  have hVe := v_ok_ill hV (m := m) (i := 1) (by omega) (Or.inr rfl)
  have p1 := hP.fd (k := (K : Int)) (by omega) (by omega) (by omega)
  have p2 := hQ.fd (k := (K : Int)) (by omega) (by omega) (by omega)
  have o1 := vfd_01 hV (k := (K : Int)) (by omega)
  have o2 := vfd_01 hVe (k := (K : Int)) (by omega)
  refine r_aload0 X dX5_changesIn_0 ?_
  refine r_get X 4 dX5_changesIn_1 z_c0 in_X5 tw_240 (by decide) rfl rfl (by decide) ?_
  refine r_get X 0 dX5_changesIn_4 (z_cPlan (Or.inl rfl)) in_X1 tw_215 (by decide) rfl rfl (by decide) ?_
  refine r_iload1 X dX5_changesIn_7 ?_
  refine r_zald X dX5_changesIn_8 (z_cPlan1 (Or.inl rfl)) (by decide) ⟨by omega, by omega⟩ ?_
  refine r_eqi p1 ?_
  refine r_aload0 X dX5_changesIn_9 ?_
  refine r_get X 5 dX5_changesIn_10 z_c0 in_X5 tw_241 (by decide) rfl rfl (by decide) ?_
  refine r_get X 0 dX5_changesIn_13 (z_cPlan (Or.inr rfl)) in_X1 tw_215 (by decide) rfl rfl (by decide) ?_
  refine r_iload1 X dX5_changesIn_16 ?_
  refine r_zald X dX5_changesIn_17 (z_cPlan1 (Or.inr rfl)) (by decide) ⟨by omega, by omega⟩ ?_
  refine r_eqi p2 ?_
  refine r_icmp_eq (tgt := 31) X dX5_changesIn_18 ⟨⟨by omega, by omega⟩, by omega, by omega⟩ (fun h18 => ?_) (fun h18 => ?_)
  · refine r_aload0 X dX5_changesIn_31 ?_
    refine r_get X 4 dX5_changesIn_32 z_c0 in_X5 tw_240 (by decide) rfl rfl (by decide) ?_
    refine r_get X 0 dX5_changesIn_35 (z_cPlan (Or.inl rfl)) in_X1 tw_215 (by decide) rfl rfl (by decide) ?_
    refine r_iload1 X dX5_changesIn_38 ?_
    refine r_zald X dX5_changesIn_39 (z_cPlan1 (Or.inl rfl)) (by decide) ⟨by omega, by omega⟩ ?_
    refine r_eqi p1 ?_
    refine r_if_ne (tgt := 45) X dX5_changesIn_40 ⟨by omega, by omega⟩ (fun h40 => ?_) (fun h40 => ?_)
    · refine r_iconst X dX5_changesIn_45 ?_
      refine r_istore3 X dX5_changesIn_46 ?_
      refine r_iconst X dX5_changesIn_47 ?_
      refine r_istore4 X dX5_changesIn_48 ?_
      have L : ∀ (fu : Nat) (j n1 : Int), (V 0 - j) < (fu : Int) → 0 ≤ j → j ≤ V 0 → n1 = hc V m (K : Int) j.toNat → z_G pg l e (z_rm 1) s mm ([.ref (a 0), .int (zI (K : Int)), .int (zI m)] : List Value).toArray below meth c 5 D κ a A 0 0 (MQ below (z_Qi D κ a A (hc V m (K : Int) (V 0).toNat) (σ)) ([.ref (a 0), .int (zI (K : Int)), .int (zI m)] : List Value).toArray s 0 0 A) σ [some (.ref (a 0)), some (.int (zI (K : Int))), some (.int (zI m)), some (.int (zI n1)), some (.int (zI j))] 50 [] := by
        intro fu
        induction fu with
        | zero =>
          intro j n1 hn j0 j1 hn1
          omega
        | succ fu ihL =>
          intro j n1 hn j0 j1 hn1
          refine r_iload4 X dX5_changesIn_50 ?_
          refine r_aload0 X dX5_changesIn_52 ?_
          refine r_get X 0 dX5_changesIn_53 z_c0 in_X5 tw_236 (by decide) rfl rfl (by decide) ?_
          refine r_get X 2 dX5_changesIn_56 (z_cShow (Or.inl rfl)) in_X4 tw_103 (by decide) rfl rfl (by decide) ?_
          refine r_eqi hS.1.1 ?_
          refine r_icmp_ge (tgt := 100) X dX5_changesIn_59 ⟨⟨by omega, by omega⟩, by omega, by omega⟩ (fun h59 => ?_) (fun h59 => ?_)
          · refine r_iload3 X dX5_changesIn_100 ?_
            exact r_iret X M dX5_changesIn_101 (by rw [hn1, show j = V 0 by omega]) rfl
          · have hcs := hc_s (V := V) (m := m) (k := (K : Int)) j0
            refine r_iload4 X dX5_changesIn_62 ?_
            refine r_iload2 X dX5_changesIn_64 ?_
            refine r_icmp_eq (tgt := 94) X dX5_changesIn_65 ⟨⟨by omega, by omega⟩, by omega, by omega⟩ (fun h65 => ?_) (fun h65 => ?_)
            · refine r_iinc4 X dX5_changesIn_94 ?_
              refine r_goto (tgt := 50) X dX5_changesIn_97 (by decide) ?_
              exact ihL (j + 1) _ (by omega) (by omega) (by omega) (by rw [hcs, ← hn1]; split <;> omega)
            · have i1 := (hvm j (by omega) (by omega)).2
              rw [show 7 + 2 * j = 6 + (2 * j + 1) by omega] at i1
              obtain ⟨d1, d2, hd1, hd2, hdr, hdc⟩ : ∃ d1 d2 : Int, σ (52 + 5 + K) j = d1 ∧ σ (62 + 5 + K) j = d2 ∧ ((-1 ≤ d1 ∧ d1 ≤ 6) ∧ -1 ≤ d2 ∧ d2 ≤ 6) ∧ ((V (6 + (2 * j + 1)) = 0 ∧ d1 = sd V (K : Int) j ∧ d2 = sd (u_ill V m 1) (K : Int) j) ∨ (V (6 + (2 * j + 1)) = 1 ∧ d1 = d2)) := by
                have ej : (u_ill V m 1) (6 + (2 * j + 1)) = V (6 + (2 * j + 1)) := u_ill_n (by omega)
                rcases (show V (6 + (2 * j + 1)) = 0 ∨ V (6 + (2 * j + 1)) = 1 by omega) with q | q
                · have g1 := hP.gv (K := K) (m := j) (by omega) (by omega) (by omega) (by omega) (by omega) q
                  have g2 := hQ.gv (K := K) (m := j) (by omega) (by omega) (by omega) (by omega) (by omega) (by omega)
                  have r1 := sd_in hV (k := (K : Int)) (m := j) (by omega) (by omega) (by omega) (by omega) q
                  have r2 := sd_in hVe (k := (K : Int)) (m := j) (by omega) (by omega) (by omega) (by omega) (by omega)
                  exact ⟨_, _, g1, g2, by omega, Or.inl ⟨q, rfl, rfl⟩⟩
                · have g1 := hP.il (K := K) (m := j) (by omega) (by omega) (by omega) (by omega) (by omega)
                  have g2 := hQ.il (K := K) (m := j) (by omega) (by omega) (by omega) (by omega) (by omega)
                  exact ⟨_, _, g1, g2, by omega, Or.inr ⟨q, rfl⟩⟩
              refine r_aload0 X dX5_changesIn_68 ?_
              refine r_get X 4 dX5_changesIn_69 z_c0 in_X5 tw_240 (by decide) rfl rfl (by decide) ?_
              refine r_iload1 X dX5_changesIn_72 ?_
              refine r_iload4 X dX5_changesIn_73 ?_
              refine r_callVi (n := 2) X (c_X1_dotOf l X.2.2.1 _ 52 (Or.inl rfl) K hK _ ⟨by omega, by omega⟩) dX5_changesIn_75 tw_465 tw_466 tw_467 tw_45 tw_468 (z_cPlan (Or.inl rfl)) (by decide) rfl rfl (Nat.le_of_ble_eq_true rfl) ⟨by decide, by decide⟩ (by decide +kernel) rfl ?_
              refine r_eqi hd1 ?_
              refine r_aload0 X dX5_changesIn_78 ?_
              refine r_get X 5 dX5_changesIn_79 z_c0 in_X5 tw_241 (by decide) rfl rfl (by decide) ?_
              refine r_iload1 X dX5_changesIn_82 ?_
              refine r_iload4 X dX5_changesIn_83 ?_
              refine r_callVi (n := 2) X (c_X1_dotOf l X.2.2.1 _ 62 (Or.inr rfl) K hK _ ⟨by omega, by omega⟩) dX5_changesIn_85 tw_465 tw_466 tw_467 tw_45 tw_468 (z_cPlan (Or.inr rfl)) (by decide) rfl rfl (Nat.le_of_ble_eq_true rfl) ⟨by decide, by decide⟩ (by decide +kernel) rfl ?_
              refine r_eqi hd2 ?_
              refine r_icmp_eq (tgt := 94) X dX5_changesIn_88 ⟨⟨by omega, by omega⟩, by omega, by omega⟩ (fun h88 => ?_) (fun h88 => ?_)
              · refine r_iinc4 X dX5_changesIn_94 ?_
                refine r_goto (tgt := 50) X dX5_changesIn_97 (by decide) ?_
                exact ihL (j + 1) _ (by omega) (by omega) (by omega) (by rw [hcs, ← hn1]; split <;> omega)
              · refine r_iinc3 X dX5_changesIn_91 ?_
                refine r_iinc4 X dX5_changesIn_94 ?_
                refine r_goto (tgt := 50) X dX5_changesIn_97 (by decide) ?_
                exact ihL (j + 1) _ (by omega) (by omega) (by omega) (by rw [hcs, ← hn1]; split <;> omega)
      exact L 8 0 0 (by omega) (by omega) (by omega) rfl
    · refine r_iconst X dX5_changesIn_43 ?_
      exact r_iret X M dX5_changesIn_44 (by rw [hc_none (by omega) (by omega)]) rfl
  · have hN6 := vN_le hv0
    refine r_aload0 X dX5_changesIn_21 ?_
    refine r_get X 0 dX5_changesIn_22 z_c0 in_X5 tw_236 (by decide) rfl rfl (by decide) ?_
    refine r_callVi (n := 0) X (c_X4_present l X.2.2.1 _ V hV hS) dX5_changesIn_25 tw_473 tw_474 tw_475 tw_41 tw_476 (z_cShow (Or.inl rfl)) (by decide) rfl rfl (Nat.le_of_ble_eq_true rfl) ⟨by decide, by decide⟩ (by decide +kernel) rfl ?_
    refine r_iconst X dX5_changesIn_28 ?_
    refine r_isub X dX5_changesIn_29 ?_
    exact r_iret X M dX5_changesIn_30 (by rw [hc_all (by omega) (by omega) h0, if_pos (by omega)]; rfl) rfl

set_option maxRecDepth 100000 in
set_option maxHeartbeats 4000000 in
theorem c_X5_hole (l : Launch) {D : va_G} {κ : Nat → ClassId} {a : Nat → Nat} {A : Nat → Prop} (hA : z_aD a A) (σ : zSt) (m : Int) (hmm : z_in m) (V : zV) (hV : v_ok V) (hS : zShow σ 1 V) (hP : zPl σ V 52) (h62 : 0 ≤ σ 62 5 ∧ σ 62 5 ≤ 5) : z_Tp l D κ a A yX5_hole cX5_hole 4 (some .int) 13 [.ref (a 0), .int (zI m)] σ (fun z σ' => z = s_hole V m ∧ zCq σ σ' V) := by
  refine z_Tp_of (cc := cX5_hole) (maxL := 4) (ret := (some .int)) (own := RX5) (lv0 := [some (.ref (a 0)), some (.int (zI m)), none, none]) hA (by decide) rfl (Nat.le_of_ble_eq_true rfl) rfl ?_
  intro pg e s mm below meth c X M
  obtain ⟨⟨hv0, hv1, hv2, hv3, hv4, hv5⟩, hvm, hvb, hvk, hvc, hvd⟩ := id hV
  obtain ⟨⟨f0, f1, f2, f3, f4, f5⟩, hm, hp⟩ := id hS
  have hk0 := hP.1
  refine r_aload0 X dX5_hole_0 ?_
  refine r_get X 0 dX5_hole_1 z_c0 in_X5 tw_236 (by decide) rfl rfl (by decide) ?_
  refine r_iload1 X dX5_hole_4 ?_
  refine r_callVi (n := 1) X (c_X4_hasMarcher l X.2.2.1 _ 1 (Or.inl rfl) _ ⟨by omega, by omega⟩ ⟨by omega, by omega⟩) dX5_hole_5 tw_273 tw_274 tw_275 tw_41 tw_276 (z_cShow (Or.inl rfl)) (by decide) rfl rfl (Nat.le_of_ble_eq_true rfl) ⟨by decide, by decide⟩ (by decide +kernel) rfl ?_
  refine r_if_neB (tgt := 13) X dX5_hole_8 (fun h8 => ?_) (fun h8 => ?_)
  · have qm := hm m (by omega) (by omega)
    have q1 := hvm m (by omega) (by omega)
    rw [show 7 + 2 * m = 6 + (2 * m + 1) by omega] at q1
    refine r_aload0 X dX5_hole_13 ?_
    refine r_get X 0 dX5_hole_14 z_c0 in_X5 tw_236 (by decide) rfl rfl (by decide) ?_
    refine r_get X 1 dX5_hole_17 (z_cShow (Or.inl rfl)) in_X4 tw_102 (by decide) rfl rfl (by decide) ?_
    refine r_iload1 X dX5_hole_20 ?_
    refine r_zald X dX5_hole_21 (z_cShow2 (Or.inl rfl)) (by decide) ⟨by omega, by omega⟩ ?_
    refine r_eqi (y := V (6 + (2 * m + 1))) qm.2 ?_
    refine r_if_eq (tgt := 28) X dX5_hole_22 ⟨by omega, by omega⟩ (fun h22 => ?_) (fun h22 => ?_)
    · have h0 : V (6 + (2 * m + 1)) = 0 := by omega
      refine r_aload0 X dX5_hole_28 ?_
      refine r_get X 4 dX5_hole_29 z_c0 in_X5 tw_240 (by decide) rfl rfl (by decide) ?_
      refine r_aload0 X dX5_hole_32 ?_
      refine r_get X 0 dX5_hole_33 z_c0 in_X5 tw_236 (by decide) rfl rfl (by decide) ?_
      refine r_aload0 X dX5_hole_36 ?_
      refine r_get X 0 dX5_hole_37 z_c0 in_X5 tw_236 (by decide) rfl rfl (by decide) ?_
      refine r_get X 4 dX5_hole_40 (z_cShow (Or.inl rfl)) in_X4 tw_112 (by decide) rfl rfl (by decide) ?_
      refine r_eqi f1 ?_
      refine r_iconst X dX5_hole_43 ?_
      refine r_isub X dX5_hole_44 ?_
      refine r_iconst X dX5_hole_45 ?_
      refine r_callVq (n := 3) X (c_X1_settleTo l X.2.2.1 _ 52 (Or.inl rfl) _ ⟨by omega, by omega⟩ (-1) ⟨by omega, by omega⟩ V hV hS.see hP.1 (hS.ill hV) (hS.i01 hV) hP.2) dX5_hole_46 tw_394 tw_395 tw_396 tw_45 tw_397 (z_cPlan (Or.inl rfl)) (by decide) rfl rfl (Nat.le_of_ble_eq_true rfl) ⟨by decide, by decide⟩ (by decide +kernel) rfl (fun σ2 h2 => ?_)
      have hq := sett_q hV hS hP h62 ⟨by omega, by omega⟩ h2
      have hlt := hq.2
      have hg62 := hq.1.2.2.1
      refine r_aload0 X dX5_hole_49 ?_
      refine r_get X 5 dX5_hole_50 z_c0 in_X5 tw_241 (by decide) rfl rfl (by decide) ?_
      refine r_iconst X dX5_hole_53 ?_
      refine r_callVv (n := 1) X (c_X1_forgetFrom l X.2.2.1 _ 62 (Or.inr rfl) _ ⟨by omega, by omega⟩ ⟨by omega, by omega⟩) dX5_hole_54 tw_262 tw_263 tw_264 tw_45 tw_265 (z_cPlan (Or.inr rfl)) (by decide) rfl rfl (Nat.le_of_ble_eq_true rfl) ⟨by decide, by decide⟩ (by decide +kernel) rfl ?_
      have hS2 := hq.1.1
      have hVe := v_ok_ill hV (m := m) (i := 1) (by omega) (Or.inr rfl)
      have e0 : (u_ill V m 1) 0 = V 0 := u_ill_n (by omega)
      have e1 : (u_ill V m 1) 1 = V 1 := u_ill_n (by omega)
      have hg62 := hq.1.2.2.1
      have hmin : min (σ2 62 5) 0 = 0 := by omega
      rw [hmin]
      have hfr : ∀ c : Nat, c ≠ 62 → z_up σ2 62 5 0 c = σ2 c := fun c hc => z_up_c hc
      have hSz : zShow (z_up σ2 62 5 0) 1 V := hS2.of (fun c _ c1 => hfr c (by omega))
      have hCe := cSee_ill hSz.see (m := m) (by omega) 1
      have he62 : 0 ≤ z_up σ2 62 5 0 62 5 ∧ z_up σ2 62 5 0 62 5 ≤ 5 := by rw [z_up_s]; omega
      have hz62 : z_up σ2 62 5 0 62 5 = 0 := z_up_s
      have hi01e := hSz.i01 hV
      have hile : ∀ m2 : Int, 0 ≤ m2 → m2 < (u_ill V m 1) 0 → ((u_ill V m 1) (6 + (2 * m2 + 1)) = 0 ↔ z_up σ2 62 5 0 (1 + 2) m2 = 0 ∧ m2 ≠ m) := fun m2 a b => by
        rw [(hSz.2.1 m2 a (by omega)).2]
        by_cases e : m2 = m
        · subst e
          rw [u_ill_s]
          exact ⟨fun q => by omega, fun q => absurd rfl q.2⟩
        · rw [u_ill_n (by omega)]
          exact ⟨fun q => ⟨q, e⟩, fun q => q.1⟩
      refine r_aload0 X dX5_hole_57 ?_
      refine r_get X 5 dX5_hole_58 z_c0 in_X5 tw_241 (by decide) rfl rfl (by decide) ?_
      refine r_aload0 X dX5_hole_61 ?_
      refine r_get X 0 dX5_hole_62 z_c0 in_X5 tw_236 (by decide) rfl rfl (by decide) ?_
      refine r_aload0 X dX5_hole_65 ?_
      refine r_get X 0 dX5_hole_66 z_c0 in_X5 tw_236 (by decide) rfl rfl (by decide) ?_
      refine r_get X 4 dX5_hole_69 (z_cShow (Or.inl rfl)) in_X4 tw_112 (by decide) rfl rfl (by decide) ?_
      refine r_eqi (y := V 1) (by rw [hfr 1 (by omega)]; exact hS2.1.2.1) ?_
      refine r_iconst X dX5_hole_72 ?_
      refine r_isub X dX5_hole_73 ?_
      refine r_iload1 X dX5_hole_74 ?_
      refine r_callVq (n := 3) X (c_X1_settleTo l X.2.2.1 _ 62 (Or.inr rfl) _ ⟨by omega, by omega⟩ m ⟨by omega, by omega⟩ (u_ill V m 1) hVe hCe he62 hile hi01e (fun K q _ => by omega)) dX5_hole_75 tw_394 tw_395 tw_396 tw_45 tw_397 (z_cPlan (Or.inr rfl)) (by decide) rfl rfl (Nat.le_of_ble_eq_true rfl) ⟨by decide, by decide⟩ (by decide +kernel) rfl (fun σ3 h3 => ?_)
      have hr3 : σ3 62 5 = V 1 := by
        rw [h3.1, hz62, e1]
        split <;> split <;> omega
      have hf3 : ∀ c : Nat, (c < 62 ∨ 80 ≤ c) → σ3 c = σ2 c := fun c hc => by rw [h3.2.2 c (by omega)]; exact hfr c (by omega)
      have hH : zHol σ3 V m := ⟨hS2.of (fun c _ c1 => hf3 c (by omega)), ⟨hq.1.2.1.of (fun c _ c1 => hf3 c (by omega)) hV, by rw [hf3 52 (by omega)]; omega⟩, ⟨by rw [hr3]; omega, h3.2.1⟩, by omega⟩
      have hfin : zCq σ σ3 V := ⟨hH.1, hH.2.1.1, by rw [hr3]; omega, fun c hc => by rw [hf3 c (by omega)]; exact hq.1.2.2.2 c hc⟩
      refine r_iconst X dX5_hole_78 ?_
      refine r_istore2 X dX5_hole_79 ?_
      refine r_iconst X dX5_hole_80 ?_
      refine r_istore3 X dX5_hole_81 ?_
      have L : ∀ (fu : Nat) (k n1 : Int), (V 1 - k) < (fu : Int) → 0 ≤ k → k ≤ V 1 → n1 = hs V m k.toNat → z_G pg l e (z_rm 13) s mm ([.ref (a 0), .int (zI m)] : List Value).toArray below meth c 4 D κ a A 0 0 (MQ below (z_Qp D κ a A (fun z σ' => z = s_hole V m ∧ zCq σ σ' V)) ([.ref (a 0), .int (zI m)] : List Value).toArray s 0 0 A) σ3 [some (.ref (a 0)), some (.int (zI m)), some (.int (zI n1)), some (.int (zI k))] 82 [] := by
        intro fu
        induction fu with
        | zero =>
          intro k n1 hn k0 k1 hn1
          omega
        | succ fu ihL =>
          intro k n1 hn k0 k1 hn1
          refine r_iload3 X dX5_hole_82 ?_
          refine r_aload0 X dX5_hole_83 ?_
          refine r_get X 0 dX5_hole_84 z_c0 in_X5 tw_236 (by decide) rfl rfl (by decide) ?_
          refine r_get X 4 dX5_hole_87 (z_cShow (Or.inl rfl)) in_X4 tw_112 (by decide) rfl rfl (by decide) ?_
          refine r_eqi (y := V 1) hH.1.1.2.1 ?_
          refine r_icmp_ge (tgt := 108) X dX5_hole_90 ⟨⟨by omega, by omega⟩, by omega, by omega⟩ (fun h90 => ?_) (fun h90 => ?_)
          · refine r_iload2 X dX5_hole_108 ?_
            exact r_iretp X M dX5_hole_109 ⟨by unfold s_hole; rw [if_pos (by omega), if_neg (by omega), hn1, show k = V 1 by omega], hfin⟩
          · refine r_iload2 X dX5_hole_93 ?_
            refine r_aload0 X dX5_hole_94 ?_
            refine r_iload3 X dX5_hole_95 ?_
            refine r_iload1 X dX5_hole_96 ?_
            refine r_callVi (n := 2) X (c_X5_changesIn l X.2.2.1 _ _ _ V hV ⟨by omega, by omega⟩ ⟨by omega, by omega⟩ h0 hH) dX5_hole_97 tw_505 tw_507 tw_12 tw_40 tw_508 z_c0 (by decide) rfl rfl (Nat.le_of_ble_eq_true rfl) ⟨by decide, by decide⟩ (by decide +kernel) rfl ?_
            refine r_iadd X dX5_hole_100 ?_
            refine r_istore2 X dX5_hole_101 ?_
            refine r_iinc3 X dX5_hole_102 ?_
            refine r_goto (tgt := 82) X dX5_hole_105 (by decide) ?_
            exact ihL (k + 1) _ (by omega) (by omega) (by omega) (by rw [hs_s k0, ← hn1])
      exact L 8 0 0 (by omega) (by omega) (by omega) rfl
    · refine r_bipush X dX5_hole_25 (by decide +kernel) ?_
      exact r_iretp X M dX5_hole_27 ⟨by unfold s_hole; (repeat' split) <;> omega, zCq.refl hS hP h62⟩
  · refine r_iconst X dX5_hole_11 ?_
    exact r_iretp X M dX5_hole_12 ⟨by unfold s_hole; (repeat' split) <;> omega, zCq.refl hS hP h62⟩

theorem zModel.eqV {σ : zSt} {V V2 : zV} (h : zModel σ V) (e : V = V2) : zModel σ V2 := e ▸ h
set_option maxRecDepth 100000 in
set_option maxHeartbeats 4000000 in
theorem c_X6_hole (l : Launch) {D : va_G} {κ : Nat → ClassId} {a : Nat → Nat} {A : Nat → Prop} (hA : z_aD a A) (σ : zSt) (m : Int) (hmm : z_in m) (V : zV) (hV : v_ok V) (hM : zModel σ V) (hW : zWho σ) : z_Tp l D κ a A yX6_hole cX6_hole 6 (some .int) 6 [.ref (a 80), .int (zI m)] σ (fun z σ' => z = s_hole V m ∧ zMup σ σ' V) := by
  refine z_Tp_of (cc := cX6_hole) (maxL := 6) (ret := (some .int)) (own := RX6) (lv0 := [some (.ref (a 80)), some (.int (zI m)), none, none, none, none]) hA (by decide) rfl (Nat.le_of_ble_eq_true rfl) rfl ?_
  intro pg e s mm below meth c X M
  obtain ⟨⟨hv0, hv1, hv2, hv3, hv4, hv5⟩, hvm, hvb, hvk, hvc, hvd⟩ := id hV
  have e0 := hM.1 0 (by omega) (by omega)
  have e1 := hM.1 1 (by omega) (by omega)
  refine r_aload0 X dX6_hole_0 ?_
  refine r_iload1 X dX6_hole_1 ?_
  refine r_callVi (n := 1) X (c_X6_isMarcher l X.2.2.1 _ _ ⟨by omega, by omega⟩ ⟨by omega, by omega⟩) dX6_hole_2 tw_626 tw_628 tw_16 tw_46 tw_629 z_c80 (by decide) rfl rfl (Nat.le_of_ble_eq_true rfl) ⟨by decide, by decide⟩ (by decide +kernel) rfl ?_
  refine r_if_neB (tgt := 10) X dX6_hole_5 (fun h5 => ?_) (fun h5 => ?_)
  · have q1 := hvm m (by omega) (by omega)
    rw [show 7 + 2 * m = 6 + (2 * m + 1) by omega] at q1
    have hil := hM.2.1 (2 * m + 1) (by omega) (by omega)
    refine r_aload0 X dX6_hole_10 ?_
    refine r_iload1 X dX6_hole_11 ?_
    refine r_callVi (n := 1) X (c_X6_isIll l X.2.2.1 _ _ ⟨by omega, by omega⟩ ⟨by omega, by omega⟩) dX6_hole_12 tw_711 tw_713 tw_23 tw_46 tw_714 z_c80 (by decide) rfl rfl (Nat.le_of_ble_eq_true rfl) ⟨by decide, by decide⟩ (by decide +kernel) rfl ?_
    refine r_if_eqB (tgt := 21) X dX6_hole_15 (fun h15 => ?_) (fun h15 => ?_)
    · have h0 : V (6 + (2 * m + 1)) = 0 := by omega
      refine r_aload0 X dX6_hole_21 ?_
      refine r_callVq (n := 0) X (c_X6_findAll l X.2.2.1 _ V hV hM hW) dX6_hole_22 tw_715 tw_717 tw_24 tw_46 tw_718 z_c80 (by decide) rfl rfl (Nat.le_of_ble_eq_true rfl) ⟨by decide, by decide⟩ (by decide +kernel) rfl (fun σ1 h1 => ?_)
      refine r_iconst X dX6_hole_25 ?_
      refine r_istore2 X dX6_hole_26 ?_
      have L : ∀ (fu : Nat) (i : Int) (σ2 : zSt), (30 - i) < (fu : Int) → 0 ≤ i → i ≤ 30 → (∀ c : Nat, c ≠ 94 → σ2 c = σ1 c) → (∀ j : Int, 0 ≤ j → j < i → σ2 94 j = σ1 88 j) → z_G pg l e (z_rm 6) s mm ([.ref (a 80), .int (zI m)] : List Value).toArray below meth c 6 D κ a A 0 0 (MQ below (z_Qp D κ a A (fun z σ' => z = s_hole V m ∧ zMup σ σ' V)) ([.ref (a 80), .int (zI m)] : List Value).toArray s 0 0 A) σ2 [some (.ref (a 80)), some (.int (zI m)), some (.int (zI i)), none, none, none] 27 [] := by
        intro fu
        induction fu with
        | zero =>
          intro i σ2 hn i0 i1 hF2 hc2
          omega
        | succ fu ihL =>
          intro i σ2 hn i0 i1 hF2 hc2
          refine r_iload2 X dX6_hole_27 ?_
          refine r_bipush X dX6_hole_28 (by decide +kernel) ?_
          refine r_icmp_ge (tgt := 51) X dX6_hole_30 ⟨⟨by omega, by omega⟩, by omega, by omega⟩ (fun h30 => ?_) (fun h30 => ?_)
          · refine r_iconst X dX6_hole_51 ?_
            refine r_istore2 X dX6_hole_52 ?_
            have L2 : ∀ (fu : Nat) (p : Int) (σ3 : zSt), (V 1 - p) < (fu : Int) → 0 ≤ p → p ≤ V 1 → (∀ c : Nat, c ≠ 94 → c ≠ 95 → σ3 c = σ1 c) → σ3 94 = σ2 94 → (∀ j : Int, 0 ≤ j → j < p → σ3 95 j = vfd V j) → z_G pg l e (z_rm 6) s mm ([.ref (a 80), .int (zI m)] : List Value).toArray below meth c 6 D κ a A 0 0 (MQ below (z_Qp D κ a A (fun z σ' => z = s_hole V m ∧ zMup σ σ' V)) ([.ref (a 80), .int (zI m)] : List Value).toArray s 0 0 A) σ3 [some (.ref (a 80)), some (.int (zI m)), some (.int (zI p)), none, none, none] 53 [] := by
              intro fu
              induction fu with
              | zero =>
                intro p σ3 hn p0 p1 hF3 h94 h95
                omega
              | succ fu ihL2 =>
                intro p σ3 hn p0 p1 hF3 h94 h95
                refine r_iload2 X dX6_hole_53 ?_
                refine r_aload0 X dX6_hole_54 ?_
                refine r_get X 0 dX6_hole_55 z_c80 in_X6 tw_558 (by decide) rfl rfl (by decide) ?_
                refine r_iconst X dX6_hole_58 ?_
                refine r_iald X dX6_hole_59 z_c81 (by decide) ⟨by omega, by omega⟩ ?_
                refine r_eqi (y := V 1) (by rw [hF3 81 (by decide) (by decide)]; exact (h1.up hM).1.1 1 (by omega) (by omega)) ?_
                refine r_icmp_ge (tgt := 81) X dX6_hole_60 ⟨⟨by omega, by omega⟩, by omega, by omega⟩ (fun h60 => ?_) (fun h60 => ?_)
                · refine r_aload0 X dX6_hole_81 ?_
                  refine r_get X 1 dX6_hole_82 z_c80 in_X6 tw_559 (by decide) rfl rfl (by decide) ?_
                  refine r_iconst X dX6_hole_85 ?_
                  refine r_iload1 X dX6_hole_86 ?_
                  refine r_imul X dX6_hole_87 ?_
                  refine r_iconst X dX6_hole_88 ?_
                  refine r_iadd X dX6_hole_89 ?_
                  refine r_iconst X dX6_hole_90 ?_
                  refine r_iast X dX6_hole_91 z_c82 (by decide) ⟨by omega, by omega⟩ ?_
                  have hVe := v_ok_ill hV (m := m) (i := 1) (by omega) (Or.inr rfl)
                  have ee0 : (u_ill V m 1) 0 = V 0 := u_ill_n (by omega)
                  have ee1 : (u_ill V m 1) 1 = V 1 := u_ill_n (by omega)
                  have hM3 : zModel σ3 V := (h1.up hM).1.of (hF3 81 (by decide) (by decide)) (hF3 82 (by decide) (by decide)) (hF3 83 (by decide) (by decide)) (hF3 84 (by decide) (by decide))
                  have hMe : zModel (z_up σ3 82 (2 * m + 1) 1) (u_ill V m 1) := zM82 hM3 1 (by omega) (by omega)
                  have hWe : zWho (z_up σ3 82 (2 * m + 1) 1) := h1.2.1.of (by rw [z_up_c (by decide)]; exact hF3 93 (by decide) (by decide))
                  refine r_aload0 X dX6_hole_92 ?_
                  refine r_callVq (n := 0) X (c_X6_findAll l X.2.2.1 _ (u_ill V m 1) hVe hMe hWe) dX6_hole_93 tw_715 tw_717 tw_24 tw_46 tw_718 z_c80 (by decide) rfl rfl (Nat.le_of_ble_eq_true rfl) ⟨by decide, by decide⟩ (by decide +kernel) rfl (fun σ4 h4 => ?_)
                  have hM4 := (h4.up hMe).1
                  have g0 : σ4 81 0 = V 0 := by rw [hM4.1 0 (by omega) (by omega)]; exact ee0
                  have g1 : σ4 81 1 = V 1 := by rw [hM4.1 1 (by omega) (by omega)]; exact ee1
                  have g95 : ∀ k : Int, 0 ≤ k → k < V 1 → σ4 95 k = vfd V k := fun k k0 k1 => by rw [h4.1 95 (by omega), z_up_c (by decide)]; exact h95 k k0 (by omega)
                  have g94 : ∀ j : Int, 0 ≤ j → j < 30 → σ4 94 j = σ1 88 j := fun j j0 j1 => by rw [h4.1 94 (by omega), z_up_c (by decide), h94]; exact hc2 j j0 (by omega)
                  have hfin : zMup σ (z_up σ4 82 (2 * m + 1) 0) V := by
                    have u1 := h1.up hM
                    have u4 := h4.up hMe
                    refine ⟨(zM82 hM4 (j := 2 * m + 1) 0 (by omega) (by omega)).eqV ?_, fun c hc => ?_, ?_, fun _ => ?_⟩
                    · funext j
                      unfold u_ill z_upf
                      by_cases e : j = 6 + (2 * m + 1)
                      · rw [if_pos e, e, h0]
                      · rw [if_neg e, if_neg e]
                    · rw [z_up_c (by omega), u4.2.1 c hc, z_up_c (by omega), hF3 c (by omega) (by omega), u1.2.1 c hc]
                    · rw [z_up_c (by decide), u4.2.2.1, z_up_c (by decide), hF3 80 (by decide) (by decide), u1.2.2.1]
                    · exact h4.2.1.of (z_up_c (by decide))
                  refine r_iconst X dX6_hole_96 ?_
                  refine r_istore2 X dX6_hole_97 ?_
                  refine r_iconst X dX6_hole_98 ?_
                  refine r_istore3 X dX6_hole_99 ?_
                  have L3 : ∀ (fu : Nat) (p n2 : Int) (o4 o5 : Option Value), (V 1 - p) < (fu : Int) → 0 ≤ p → p ≤ V 1 → n2 = hs V m p.toNat → z_G pg l e (z_rm 6) s mm ([.ref (a 80), .int (zI m)] : List Value).toArray below meth c 6 D κ a A 0 0 (MQ below (z_Qp D κ a A (fun z σ' => z = s_hole V m ∧ zMup σ σ' V)) ([.ref (a 80), .int (zI m)] : List Value).toArray s 0 0 A) σ4 [some (.ref (a 80)), some (.int (zI m)), some (.int (zI n2)), some (.int (zI p)), o4, o5] 100 [] := by
                    intro fu
                    induction fu with
                    | zero =>
                      intro p n2 o4 o5 hn p0 p1 hn2
                      omega
                    | succ fu ihL3 =>
                      intro p n2 o4 o5 hn p0 p1 hn2
                      refine r_iload3 X dX6_hole_100 ?_
                      refine r_aload0 X dX6_hole_101 ?_
                      refine r_get X 0 dX6_hole_102 z_c80 in_X6 tw_558 (by decide) rfl rfl (by decide) ?_
                      refine r_iconst X dX6_hole_105 ?_
                      refine r_iald X dX6_hole_106 z_c81 (by decide) ⟨by omega, by omega⟩ ?_
                      refine r_eqi g1 ?_
                      refine r_icmp_ge (tgt := 216) X dX6_hole_107 ⟨⟨by omega, by omega⟩, by omega, by omega⟩ (fun h107 => ?_) (fun h107 => ?_)
                      · refine r_aload0 X dX6_hole_216 ?_
                        refine r_get X 1 dX6_hole_217 z_c80 in_X6 tw_559 (by decide) rfl rfl (by decide) ?_
                        refine r_iconst X dX6_hole_220 ?_
                        refine r_iload1 X dX6_hole_221 ?_
                        refine r_imul X dX6_hole_222 ?_
                        refine r_iconst X dX6_hole_223 ?_
                        refine r_iadd X dX6_hole_224 ?_
                        refine r_iconst X dX6_hole_225 ?_
                        refine r_iast X dX6_hole_226 z_c82 (by decide) ⟨by omega, by omega⟩ ?_
                        refine r_iload2 X dX6_hole_227 ?_
                        exact r_iretp X M dX6_hole_228 ⟨by unfold s_hole; rw [if_pos (by omega), if_neg (by omega), hn2, show p = V 1 by omega], hfin⟩
                      · have hp1 := g95 p (by omega) (by omega)
                        have hp2 := h4.set (k := p) (by omega) (by omega)
                        have o1 := vfd_01 hV (k := p) (by omega)
                        have o2 := vfd_01 hVe (k := p) (by omega)
                        refine r_iconst X dX6_hole_110 ?_
                        refine r_istore4 X dX6_hole_111 ?_
                        have L4 : ∀ (fu : Nat) (j n3 : Int) (o5 : Option Value), (V 0 - j) < (fu : Int) → 0 ≤ j → j ≤ V 0 → n3 = n2 + hc V m p j.toNat → z_G pg l e (z_rm 6) s mm ([.ref (a 80), .int (zI m)] : List Value).toArray below meth c 6 D κ a A 0 0 (MQ below (z_Qp D κ a A (fun z σ' => z = s_hole V m ∧ zMup σ σ' V)) ([.ref (a 80), .int (zI m)] : List Value).toArray s 0 0 A) σ4 [some (.ref (a 80)), some (.int (zI m)), some (.int (zI n3)), some (.int (zI p)), some (.int (zI j)), o5] 113 [] := by
                          intro fu
                          induction fu with
                          | zero =>
                            intro j n3 o5 hn j0 j1 hn3
                            omega
                          | succ fu ihL4 =>
                            intro j n3 o5 hn j0 j1 hn3
                            refine r_iload4 X dX6_hole_113 ?_
                            refine r_aload0 X dX6_hole_115 ?_
                            refine r_get X 0 dX6_hole_116 z_c80 in_X6 tw_558 (by decide) rfl rfl (by decide) ?_
                            refine r_iconst X dX6_hole_119 ?_
                            refine r_iald X dX6_hole_120 z_c81 (by decide) ⟨by omega, by omega⟩ ?_
                            refine r_eqi g0 ?_
                            refine r_icmp_ge (tgt := 210) X dX6_hole_121 ⟨⟨by omega, by omega⟩, by omega, by omega⟩ (fun h121 => ?_) (fun h121 => ?_)
                            · refine r_iinc3 X dX6_hole_210 ?_
                              refine r_goto (tgt := 100) X dX6_hole_213 (by decide) ?_
                              exact ihL3 (p + 1) _ _ _ (by omega) (by omega) (by omega) (by rw [hs_s p0, ← hn2, hn3, show j.toNat = (V 0).toNat by omega])
                            · have hcs := hc_s (V := V) (m := m) (k := p) j0
                              have i1 := (hvm j (by omega) (by omega)).2
                              rw [show 7 + 2 * j = 6 + (2 * j + 1) by omega] at i1
                              have hI4 : (j = m ∧ σ4 82 (2 * j + 1) = 1) ∨ (j ≠ m ∧ σ4 82 (2 * j + 1) = V (6 + (2 * j + 1))) := by
                                rw [hM4.2.1 (2 * j + 1) (by omega) (by omega)]
                                by_cases e : j = m
                                · subst e; exact Or.inl ⟨rfl, u_ill_s _ _ _⟩
                                · exact Or.inr ⟨e, u_ill_n (by omega)⟩
                              refine r_aload0 X dX6_hole_124 ?_
                              refine r_get X 16 dX6_hole_125 z_c80 in_X6 tw_574 (by decide) rfl rfl (by decide) ?_
                              refine r_iload3 X dX6_hole_128 ?_
                              refine r_zald X dX6_hole_129 z_c95 (by decide) ⟨by omega, by omega⟩ ?_
                              refine r_eqi hp1 ?_
                              refine r_aload0 X dX6_hole_130 ?_
                              refine r_get X 10 dX6_hole_131 z_c80 in_X6 tw_568 (by decide) rfl rfl (by decide) ?_
                              refine r_iload3 X dX6_hole_134 ?_
                              refine r_zald X dX6_hole_135 z_c89 (by decide) ⟨by omega, by omega⟩ ?_
                              refine r_eqi hp2 ?_
                              refine r_icmp_ne (tgt := 175) X dX6_hole_136 ⟨⟨by omega, by omega⟩, by omega, by omega⟩ (fun h136 => ?_) (fun h136 => ?_)
                              · refine r_iconst X dX6_hole_175 ?_
                                refine r_goto (tgt := 180) X dX6_hole_176 (by decide) ?_
                                refine r_istore5 X dX6_hole_180 ?_
                                refine r_iload2 X dX6_hole_182 ?_
                                refine r_aload0 X dX6_hole_183 ?_
                                refine r_iload4 X dX6_hole_184 ?_
                                refine r_callVi (n := 1) X (c_X6_isIll l X.2.2.1 _ _ ⟨by omega, by omega⟩ ⟨by omega, by omega⟩) dX6_hole_186 tw_711 tw_713 tw_23 tw_46 tw_714 z_c80 (by decide) rfl rfl (Nat.le_of_ble_eq_true rfl) ⟨by decide, by decide⟩ (by decide +kernel) rfl ?_
                                refine r_if_neB (tgt := 201) X dX6_hole_189 (fun h189 => ?_) (fun h189 => ?_)
                                · refine r_iconst X dX6_hole_201 ?_
                                  refine r_iadd X dX6_hole_202 ?_
                                  refine r_istore2 X dX6_hole_203 ?_
                                  refine r_iinc4 X dX6_hole_204 ?_
                                  refine r_goto (tgt := 113) X dX6_hole_207 (by decide) ?_
                                  exact ihL4 (j + 1) _ _ (by omega) (by omega) (by omega) (by rw [hcs, hn3]; split <;> omega)
                                · refine r_iload5 X dX6_hole_192 ?_
                                  refine r_if_eq (tgt := 201) X dX6_hole_194 ⟨by omega, by omega⟩ (fun h194 => ?_) (fun h194 => ?_)
                                  · refine r_iconst X dX6_hole_201 ?_
                                    refine r_iadd X dX6_hole_202 ?_
                                    refine r_istore2 X dX6_hole_203 ?_
                                    refine r_iinc4 X dX6_hole_204 ?_
                                    refine r_goto (tgt := 113) X dX6_hole_207 (by decide) ?_
                                    exact ihL4 (j + 1) _ _ (by omega) (by omega) (by omega) (by rw [hcs, hn3]; split <;> omega)
                                  · refine r_iconst X dX6_hole_197 ?_
                                    refine r_goto (tgt := 202) X dX6_hole_198 (by decide) ?_
                                    refine r_iadd X dX6_hole_202 ?_
                                    refine r_istore2 X dX6_hole_203 ?_
                                    refine r_iinc4 X dX6_hole_204 ?_
                                    refine r_goto (tgt := 113) X dX6_hole_207 (by decide) ?_
                                    exact ihL4 (j + 1) _ _ (by omega) (by omega) (by omega) (by rw [hcs, hn3]; split <;> omega)
                              · refine r_aload0 X dX6_hole_139 ?_
                                refine r_get X 10 dX6_hole_140 z_c80 in_X6 tw_568 (by decide) rfl rfl (by decide) ?_
                                refine r_iload3 X dX6_hole_143 ?_
                                refine r_zald X dX6_hole_144 z_c89 (by decide) ⟨by omega, by omega⟩ ?_
                                refine r_eqi hp2 ?_
                                refine r_if_eq (tgt := 179) X dX6_hole_145 ⟨by omega, by omega⟩ (fun h145 => ?_) (fun h145 => ?_)
                                · refine r_iconst X dX6_hole_179 ?_
                                  refine r_istore5 X dX6_hole_180 ?_
                                  refine r_iload2 X dX6_hole_182 ?_
                                  refine r_aload0 X dX6_hole_183 ?_
                                  refine r_iload4 X dX6_hole_184 ?_
                                  refine r_callVi (n := 1) X (c_X6_isIll l X.2.2.1 _ _ ⟨by omega, by omega⟩ ⟨by omega, by omega⟩) dX6_hole_186 tw_711 tw_713 tw_23 tw_46 tw_714 z_c80 (by decide) rfl rfl (Nat.le_of_ble_eq_true rfl) ⟨by decide, by decide⟩ (by decide +kernel) rfl ?_
                                  refine r_if_neB (tgt := 201) X dX6_hole_189 (fun h189 => ?_) (fun h189 => ?_)
                                  · refine r_iconst X dX6_hole_201 ?_
                                    refine r_iadd X dX6_hole_202 ?_
                                    refine r_istore2 X dX6_hole_203 ?_
                                    refine r_iinc4 X dX6_hole_204 ?_
                                    refine r_goto (tgt := 113) X dX6_hole_207 (by decide) ?_
                                    exact ihL4 (j + 1) _ _ (by omega) (by omega) (by omega) (by rw [hcs, hn3]; split <;> omega)
                                  · refine r_iload5 X dX6_hole_192 ?_
                                    refine r_if_eq (tgt := 201) X dX6_hole_194 ⟨by omega, by omega⟩ (fun h194 => ?_) (fun h194 => ?_)
                                    · refine r_iconst X dX6_hole_201 ?_
                                      refine r_iadd X dX6_hole_202 ?_
                                      refine r_istore2 X dX6_hole_203 ?_
                                      refine r_iinc4 X dX6_hole_204 ?_
                                      refine r_goto (tgt := 113) X dX6_hole_207 (by decide) ?_
                                      exact ihL4 (j + 1) _ _ (by omega) (by omega) (by omega) (by rw [hcs, hn3]; split <;> omega)
                                    · refine r_iconst X dX6_hole_197 ?_
                                      refine r_goto (tgt := 202) X dX6_hole_198 (by decide) ?_
                                      refine r_iadd X dX6_hole_202 ?_
                                      refine r_istore2 X dX6_hole_203 ?_
                                      refine r_iinc4 X dX6_hole_204 ?_
                                      refine r_goto (tgt := 113) X dX6_hole_207 (by decide) ?_
                                      exact ihL4 (j + 1) _ _ (by omega) (by omega) (by omega) (by rw [hcs, hn3]; split <;> omega)
                                · have hw9 : j = m ∨ V (6 + (2 * j + 1)) = 1 ∨ (wr (σ4 94 (6 * p + j)) = sd V p j ∧ wr (σ4 88 (6 * p + j)) = sd (u_ill V m 1) p j) := by
                                    rcases (show j = m ∨ V (6 + (2 * j + 1)) = 1 ∨ (j ≠ m ∧ V (6 + (2 * j + 1)) = 0) by omega) with q | q | ⟨q, q2⟩
                                    · exact Or.inl q
                                    · exact Or.inr (Or.inl q)
                                    · have ej : (u_ill V m 1) (6 + (2 * j + 1)) = V (6 + (2 * j + 1)) := u_ill_n (by omega)
                                      have r1 := sd_in hV (k := p) (m := j) (by omega) (by omega) (by omega) (by omega) q2
                                      have r2 := sd_in hVe (k := p) (m := j) (by omega) (by omega) (by omega) (by omega) (by omega)
                                      refine Or.inr (Or.inr ⟨?_, ?_⟩)
                                      · rw [g94 _ (by omega) (by omega), h1.gv (k := p) (m := j) (by omega) (by omega) (by omega) (by omega) (by omega) q2]
                                        exact wr_id ⟨by omega, by omega⟩
                                      · rw [h4.gv (k := p) (m := j) (by omega) (by omega) (by omega) (by omega) (by omega) (by omega)]
                                        exact wr_id ⟨by omega, by omega⟩
                                  refine r_aload0 X dX6_hole_148 ?_
                                  refine r_get X 15 dX6_hole_149 z_c80 in_X6 tw_573 (by decide) rfl rfl (by decide) ?_
                                  refine r_bipush X dX6_hole_152 (by decide +kernel) ?_
                                  refine r_iload3 X dX6_hole_154 ?_
                                  refine r_imul X dX6_hole_155 ?_
                                  refine r_iload4 X dX6_hole_156 ?_
                                  refine r_iadd X dX6_hole_158 ?_
                                  refine r_iald X dX6_hole_159 z_c94 (by decide) ⟨by omega, by omega⟩ ?_
                                  refine r_wr ?_
                                  refine r_aload0 X dX6_hole_160 ?_
                                  refine r_get X 9 dX6_hole_161 z_c80 in_X6 tw_567 (by decide) rfl rfl (by decide) ?_
                                  refine r_bipush X dX6_hole_164 (by decide +kernel) ?_
                                  refine r_iload3 X dX6_hole_166 ?_
                                  refine r_imul X dX6_hole_167 ?_
                                  refine r_iload4 X dX6_hole_168 ?_
                                  refine r_iadd X dX6_hole_170 ?_
                                  refine r_iald X dX6_hole_171 z_c88 (by decide) ⟨by omega, by omega⟩ ?_
                                  refine r_wr ?_
                                  refine r_icmp_eq (tgt := 179) X dX6_hole_172 ⟨wr_in _, wr_in _⟩ (fun h172 => ?_) (fun h172 => ?_)
                                  · refine r_iconst X dX6_hole_179 ?_
                                    refine r_istore5 X dX6_hole_180 ?_
                                    refine r_iload2 X dX6_hole_182 ?_
                                    refine r_aload0 X dX6_hole_183 ?_
                                    refine r_iload4 X dX6_hole_184 ?_
                                    refine r_callVi (n := 1) X (c_X6_isIll l X.2.2.1 _ _ ⟨by omega, by omega⟩ ⟨by omega, by omega⟩) dX6_hole_186 tw_711 tw_713 tw_23 tw_46 tw_714 z_c80 (by decide) rfl rfl (Nat.le_of_ble_eq_true rfl) ⟨by decide, by decide⟩ (by decide +kernel) rfl ?_
                                    refine r_if_neB (tgt := 201) X dX6_hole_189 (fun h189 => ?_) (fun h189 => ?_)
                                    · refine r_iconst X dX6_hole_201 ?_
                                      refine r_iadd X dX6_hole_202 ?_
                                      refine r_istore2 X dX6_hole_203 ?_
                                      refine r_iinc4 X dX6_hole_204 ?_
                                      refine r_goto (tgt := 113) X dX6_hole_207 (by decide) ?_
                                      exact ihL4 (j + 1) _ _ (by omega) (by omega) (by omega) (by rw [hcs, hn3]; split <;> omega)
                                    · refine r_iload5 X dX6_hole_192 ?_
                                      refine r_if_eq (tgt := 201) X dX6_hole_194 ⟨by omega, by omega⟩ (fun h194 => ?_) (fun h194 => ?_)
                                      · refine r_iconst X dX6_hole_201 ?_
                                        refine r_iadd X dX6_hole_202 ?_
                                        refine r_istore2 X dX6_hole_203 ?_
                                        refine r_iinc4 X dX6_hole_204 ?_
                                        refine r_goto (tgt := 113) X dX6_hole_207 (by decide) ?_
                                        exact ihL4 (j + 1) _ _ (by omega) (by omega) (by omega) (by rw [hcs, hn3]; split <;> omega)
                                      · refine r_iconst X dX6_hole_197 ?_
                                        refine r_goto (tgt := 202) X dX6_hole_198 (by decide) ?_
                                        refine r_iadd X dX6_hole_202 ?_
                                        refine r_istore2 X dX6_hole_203 ?_
                                        refine r_iinc4 X dX6_hole_204 ?_
                                        refine r_goto (tgt := 113) X dX6_hole_207 (by decide) ?_
                                        exact ihL4 (j + 1) _ _ (by omega) (by omega) (by omega) (by rw [hcs, hn3]; split <;> omega)
                                  · refine r_iconst X dX6_hole_175 ?_
                                    refine r_goto (tgt := 180) X dX6_hole_176 (by decide) ?_
                                    refine r_istore5 X dX6_hole_180 ?_
                                    refine r_iload2 X dX6_hole_182 ?_
                                    refine r_aload0 X dX6_hole_183 ?_
                                    refine r_iload4 X dX6_hole_184 ?_
                                    refine r_callVi (n := 1) X (c_X6_isIll l X.2.2.1 _ _ ⟨by omega, by omega⟩ ⟨by omega, by omega⟩) dX6_hole_186 tw_711 tw_713 tw_23 tw_46 tw_714 z_c80 (by decide) rfl rfl (Nat.le_of_ble_eq_true rfl) ⟨by decide, by decide⟩ (by decide +kernel) rfl ?_
                                    refine r_if_neB (tgt := 201) X dX6_hole_189 (fun h189 => ?_) (fun h189 => ?_)
                                    · refine r_iconst X dX6_hole_201 ?_
                                      refine r_iadd X dX6_hole_202 ?_
                                      refine r_istore2 X dX6_hole_203 ?_
                                      refine r_iinc4 X dX6_hole_204 ?_
                                      refine r_goto (tgt := 113) X dX6_hole_207 (by decide) ?_
                                      exact ihL4 (j + 1) _ _ (by omega) (by omega) (by omega) (by rw [hcs, hn3]; split <;> omega)
                                    · refine r_iload5 X dX6_hole_192 ?_
                                      refine r_if_eq (tgt := 201) X dX6_hole_194 ⟨by omega, by omega⟩ (fun h194 => ?_) (fun h194 => ?_)
                                      · refine r_iconst X dX6_hole_201 ?_
                                        refine r_iadd X dX6_hole_202 ?_
                                        refine r_istore2 X dX6_hole_203 ?_
                                        refine r_iinc4 X dX6_hole_204 ?_
                                        refine r_goto (tgt := 113) X dX6_hole_207 (by decide) ?_
                                        exact ihL4 (j + 1) _ _ (by omega) (by omega) (by omega) (by rw [hcs, hn3]; split <;> omega)
                                      · refine r_iconst X dX6_hole_197 ?_
                                        refine r_goto (tgt := 202) X dX6_hole_198 (by decide) ?_
                                        refine r_iadd X dX6_hole_202 ?_
                                        refine r_istore2 X dX6_hole_203 ?_
                                        refine r_iinc4 X dX6_hole_204 ?_
                                        refine r_goto (tgt := 113) X dX6_hole_207 (by decide) ?_
                                        exact ihL4 (j + 1) _ _ (by omega) (by omega) (by omega) (by rw [hcs, hn3]; split <;> omega)
                        exact L4 8 0 n2 _ (by omega) (by omega) (by omega) (by show n2 = n2 + 0; omega)
                  exact L3 8 0 0 none none (by omega) (by omega) (by omega) rfl
                · have h01 := vfd_01 hV (k := p) (by omega)
                  refine r_aload0 X dX6_hole_63 ?_
                  refine r_get X 16 dX6_hole_64 z_c80 in_X6 tw_574 (by decide) rfl rfl (by decide) ?_
                  refine r_iload2 X dX6_hole_67 ?_
                  refine r_aload0 X dX6_hole_68 ?_
                  refine r_get X 10 dX6_hole_69 z_c80 in_X6 tw_568 (by decide) rfl rfl (by decide) ?_
                  refine r_iload2 X dX6_hole_72 ?_
                  refine r_zald X dX6_hole_73 z_c89 (by decide) ⟨by omega, by omega⟩ ?_
                  refine r_eqi (y := vfd V p) (by rw [hF3 89 (by decide) (by decide)]; exact h1.set (k := p) (by omega) (by omega)) ?_
                  refine r_zast X dX6_hole_74 z_c95 (by decide) ⟨by omega, by omega⟩ (by omega) ?_
                  refine r_iinc2 X dX6_hole_75 ?_
                  refine r_goto (tgt := 53) X dX6_hole_78 (by decide) ?_
                  exact ihL2 (p + 1) _ (by omega) (by omega) (by omega) (fun c a b => by rw [z_up_c b]; exact hF3 c a b) (by rw [z_up_c (by decide)]; exact h94) (fun j j0 j1 => by by_cases e : j = p; (rw [e, z_up_s]); (rw [z_up_j e]; exact h95 j j0 (by omega)))
            exact L2 8 0 σ2 (by omega) (by omega) (by omega) (fun c a _ => hF2 c a) rfl (fun j _ _ => by omega)
          · refine r_aload0 X dX6_hole_33 ?_
            refine r_get X 15 dX6_hole_34 z_c80 in_X6 tw_573 (by decide) rfl rfl (by decide) ?_
            refine r_iload2 X dX6_hole_37 ?_
            refine r_aload0 X dX6_hole_38 ?_
            refine r_get X 9 dX6_hole_39 z_c80 in_X6 tw_567 (by decide) rfl rfl (by decide) ?_
            refine r_iload2 X dX6_hole_42 ?_
            refine r_iald X dX6_hole_43 z_c88 (by decide) ⟨by omega, by omega⟩ ?_
            refine r_iast X dX6_hole_44 z_c94 (by decide) ⟨by omega, by omega⟩ ?_
            refine r_iinc2 X dX6_hole_45 ?_
            refine r_goto (tgt := 27) X dX6_hole_48 (by decide) ?_
            exact ihL (i + 1) _ (by omega) (by omega) (by omega) (fun c hc => by rw [z_up_c hc]; exact hF2 c hc) (fun j j0 j1 => by by_cases e : j = i; (rw [e, z_up_s, hF2 88 (by decide)]); (rw [z_up_j e]; exact hc2 j j0 (by omega)))
      exact L 31 0 σ1 (by omega) (by omega) (by omega) (fun _ _ => rfl) (fun j _ _ => by omega)
    · refine r_bipush X dX6_hole_18 (by decide +kernel) ?_
      exact r_iretp X M dX6_hole_20 ⟨by unfold s_hole; (repeat' split) <;> omega, zMup.refl hM⟩
  · refine r_iconst X dX6_hole_8 ?_
    exact r_iretp X M dX6_hole_9 ⟨by unfold s_hole; (repeat' split) <;> omega, zMup.refl hM⟩

