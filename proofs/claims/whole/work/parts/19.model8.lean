def lpf {α : Type} (f : Nat → α → α) : Nat → Nat → α → α
  | _, 0, x => x
  | k, n + 1, x => lpf f (k + 1) n (f k x)
theorem lpf_sp {α : Type} {f : Nat → α → α} {x : α} : ∀ (n k : Nat), lpf f k n (sp_lp f k x) = sp_lp f (k + n) x
  | 0, k => rfl
  | n + 1, k => by
    have ih := lpf_sp (f := f) (x := x) n (k + 1)
    show lpf f (k + 1) n (f k (sp_lp f k x)) = _
    rw [show k + (n + 1) = k + 1 + n by omega, ← ih]
    rfl
theorem lpf_0 {α : Type} {f : Nat → α → α} {x : α} (n : Nat) : lpf f 0 n x = sp_lp f n x := by
  have := lpf_sp (f := f) (x := x) n 0
  rw [Nat.zero_add] at this
  exact this
theorem lpf_id {α : Type} {f : Nat → α → α} {x : α} : ∀ (n k : Nat), (∀ i, k ≤ i → i < k + n → f i x = x) → lpf f k n x = x
  | 0, k, _ => rfl
  | n + 1, k, h => by
    show lpf f (k + 1) n (f k x) = x
    rw [h k (by omega) (by omega)]
    exact lpf_id n (k + 1) (fun i h1 h2 => h i (by omega) (by omega))
/-- one turn's try of one dot -/
noncomputable def dstep (ok : Nat → (Nat → Int) → Nat → Prop) (st : Nat → Nat → Int) (fin : (Nat → Int) → Prop) (nd r t : Nat) (tk : Nat → Int) (g s : Int) : Nat → zAcc → zAcc := fun d c => cIf (ok t tk d) (dfs ok st fin nd r (t + 1) (tkU tk t (d : Int)) (max g (st t d)) (s + st t d) c) c
theorem dfs_lpf (ok : Nat → (Nat → Int) → Nat → Prop) (st : Nat → Nat → Int) (fin : (Nat → Int) → Prop) (nd r t : Nat) (tk : Nat → Int) (g s : Int) (c : zAcc) : dfs ok st fin nd (r + 1) t tk g s c = lpf (dstep ok st fin nd r t tk g s) 0 nd c := by
  rw [lpf_0]
  rfl
def zFB (σ σ' : zSt) (p : Int) : Prop := (∀ c : Nat, c ≠ 88 → c ≠ 89 → c ≠ 90 → c ≠ 91 → c ≠ 92 → σ' c = σ c) ∧ (∀ x : Int, x ≠ p → σ' 89 x = σ 89 x ∧ σ' 90 x = σ 90 x ∧ σ' 91 x = σ 91 x) ∧ (∀ j : Int, j < 6 * p ∨ 6 * p + 6 ≤ j → σ' 88 j = σ 88 j)
theorem zFB.refl (σ : zSt) (p : Int) : zFB σ σ p := ⟨fun _ _ _ _ _ _ => rfl, fun _ _ => ⟨rfl, rfl, rfl⟩, fun _ _ => rfl⟩
theorem zFB.fa {σ σ1 σ2 : zSt} {p : Int} (h : zFB σ σ1 p) (h2 : zFA σ1 σ2 p) : zFB σ σ2 p := ⟨fun c a b d e f => (h2.1 c a b d e).trans (h.1 c a b d e f), fun x hx => ⟨(h2.2.1 x hx).1.trans (h.2.1 x hx).1, (h2.2.1 x hx).2.1.trans (h.2.1 x hx).2.1, (h2.2.1 x hx).2.2.trans (h.2.1 x hx).2.2⟩, fun j hj => (h2.2.2 j hj).trans (h.2.2 j hj)⟩
theorem zFB.up {σ σ1 : zSt} {p : Int} (h : zFB σ σ1 p) (j v : Int) : zFB σ (z_up σ1 92 j v) p := ⟨fun c a b d e f => by rw [z_up_c f]; exact h.1 c a b d e f, fun x hx => by rw [z_up_c (by decide), z_up_c (by decide), z_up_c (by decide)]; exact h.2.1 x hx, fun i hi => by rw [z_up_c (by decide)]; exact h.2.2 i hi⟩
theorem AccM.up {σ : zSt} {V : zV} {p : Int} {c : zAcc} (h : AccM σ V p c) {q : Nat} (j v : Int) (hq : q ≠ 88 ∧ q ≠ 89 ∧ q ≠ 90 ∧ q ≠ 91) : AccM (z_up σ q j v) V p c := by
  unfold AccM
  rw [z_up_c (by omega), z_up_c (by omega), z_up_c (by omega), z_up_c (by omega)]
  exact h
theorem mE.fb {σ σ1 : zSt} {V : zV} {p : Int} {gt : Nat → Int} (h : mE σ V p gt) (hF : zFB σ σ1 p) : mE σ1 V p gt := by
  obtain ⟨a, b, c, d, e⟩ := h
  refine ⟨a, b.of (hF.1 81 (by decide) (by decide) (by decide) (by decide) (by decide)) (hF.1 82 (by decide) (by decide) (by decide) (by decide) (by decide)) (hF.1 83 (by decide) (by decide) (by decide) (by decide) (by decide)) (hF.1 84 (by decide) (by decide) (by decide) (by decide) (by decide)), c, fun q t ht => ?_, e⟩
  have hw := (vw_in ht).1
  have hv := a.1.1
  rw [hF.2.2 _ (by omega)]
  exact d q t ht
/-- the model's search at turn t -/
def mI (σ1 σ2 : zSt) (V : zV) (p : Int) (gt : Nat → Int) (t : Nat) (tk : Nat → Int) (c : zAcc) : Prop := zFB σ1 σ2 p ∧ AccM σ2 V p c ∧ (∀ i, i < t → σ2 92 (vw V i) = tk i ∧ 0 ≤ tk i ∧ tk i < vn V p) ∧ (p = 0 → c.1 = 0)
/-- the model, but for its search -/
def zFC (σ σ' : zSt) (p : Int) : Prop := (∀ c : Nat, c < 88 ∨ 94 ≤ c → σ' c = σ c) ∧ (∀ x : Int, x ≠ p → σ' 89 x = σ 89 x ∧ σ' 90 x = σ 90 x ∧ σ' 91 x = σ 91 x) ∧ (∀ j : Int, j < 6 * p ∨ 6 * p + 6 ≤ j → σ' 88 j = σ 88 j)

theorem dfs_nbN {ok : Nat → (Nat → Int) → Nat → Prop} {st : Nat → Nat → Int} {fin : (Nat → Int) → Prop} {nd N : Nat} (hst : ∀ t d, t < N → d < nd → 0 ≤ st t d ∧ st t d ≤ 40) : ∀ (r t : Nat) (tk : Nat → Int) (g s : Int) (c : zAcc), t + r ≤ N → ¬ better g s c → dfs ok st fin nd r t tk g s c = c
  | 0, t, tk, g, s, c, _, h => by rw [dfs_0]; exact cIf_f (fun q => h q.2)
  | r + 1, t, tk, g, s, c, hN, h => by
    rw [dfs_s]
    refine sp_lp_id nd (fun d hd => ?_)
    by_cases e : ok t tk d
    · rw [cIf_t e]
      have h0 := (hst t d (by omega) hd).1
      exact dfs_nbN hst r (t + 1) _ _ _ c (by omega) (fun q => h (by unfold better at q ⊢; omega))
    · exact cIf_f e

set_option maxRecDepth 100000 in
set_option maxHeartbeats 4000000 in
theorem c_X6_seek (l : Launch) {D : va_G} {κ : Nat → ClassId} {a : Nat → Nat} {A : Nat → Prop} (hA : z_aD a A) (σ : zSt) (K : Nat) (V : zV) (hV : v_ok V) (hM : zModel σ V) (hK : (K : Int) < V 1) (hW : zWho σ) (hP : ∀ K' : Nat, K = K' + 1 → AccM σ V (K' : Int) (vS V K')) : z_Tq l D κ a A yX6_seek cX6_seek 5 none 4 [.ref (a 80), .int (zI (K : Int))] σ (fun σ' => AccM σ' V (K : Int) (vS V K) ∧ zFC σ σ' (K : Int) ∧ zWho σ') := by
  refine z_Tq_of (cc := cX6_seek) (maxL := 5) (ret := none) (own := RX6) (lv0 := [some (.ref (a 80)), some (.int (zI (K : Int))), none, none, none]) hA (by decide) rfl (Nat.le_of_ble_eq_true rfl) rfl ?_
  intro pg e s mm below meth c X M
  obtain ⟨⟨hv0, hv1, hv2, hv3, hv4, hv5⟩, hvm, hvb, hvk, hvc, hvd⟩ := id hV
  have hp5 : 0 ≤ (K : Int) ∧ (K : Int) < 5 := by omega
  have hc1 : 1 ≤ vc V (K : Int) := hvc (K : Int) (by omega) (by omega)
  have J23 : (∃ gt : Nat → Int, ((K : Int) ≠ 0 → ∀ t, t < vN V → σ 88 (6 * ((K : Int) - 1) + vw V t) = gt t ∧ 0 ≤ gt t ∧ gt t < 7) ∧ vS V K = vD V (K : Int) gt) → z_G pg l e (z_rm 4) s mm ([.ref (a 80), .int (zI (K : Int))] : List Value).toArray below meth c 5 D κ a A 0 0 (MQ below (z_Qq D κ a A (fun σ' => AccM σ' V (K : Int) (vS V K) ∧ zFC σ σ' (K : Int) ∧ zWho σ')) ([.ref (a 80), .int (zI (K : Int))] : List Value).toArray s 0 0 A) (z_up σ 89 (K : Int) 0) [some (.ref (a 80)), some (.int (zI (K : Int))), none, none, none] 23 [] := by
    rintro ⟨gt, hgt, hvS⟩
    refine r_iconst X dX6_seek_23 ?_
    refine r_istore2 X dX6_seek_24 ?_
    refine r_iconst X dX6_seek_25 ?_
    refine r_istore3 X dX6_seek_26 ?_
    have L : ∀ (fu : Nat) (m n0 : Int) (σ1 : zSt), (V 0 - m) < (fu : Int) → 0 ≤ m → m ≤ V 0 → n0 = ((vWl V m.toNat).length : Int) → (∀ c : Nat, c ≠ 93 → σ1 c = z_up σ 89 (K : Int) 0 c) → zWho σ1 → (∀ t : Nat, t < (vWl V m.toNat).length → σ1 93 (t : Int) = (((vWl V m.toNat)[t]?).getD 0 : Nat)) → z_G pg l e (z_rm 4) s mm ([.ref (a 80), .int (zI (K : Int))] : List Value).toArray below meth c 5 D κ a A 0 0 (MQ below (z_Qq D κ a A (fun σ' => AccM σ' V (K : Int) (vS V K) ∧ zFC σ σ' (K : Int) ∧ zWho σ')) ([.ref (a 80), .int (zI (K : Int))] : List Value).toArray s 0 0 A) σ1 [some (.ref (a 80)), some (.int (zI (K : Int))), some (.int (zI n0)), some (.int (zI m)), none] 27 [] := by
      intro fu
      induction fu with
      | zero =>
        intro m n0 σ1 hn m0 m1 hn0 hFw hWw hw
        omega
      | succ fu ihL =>
        intro m n0 σ1 hn m0 m1 hn0 hFw hWw hw
        have hlen := vWl_len V m.toNat
        refine r_iload3 X dX6_seek_27 ?_
        refine r_aload0 X dX6_seek_28 ?_
        refine r_get X 0 dX6_seek_29 z_c80 in_X6 tw_558 (by decide) rfl rfl (by decide) ?_
        refine r_iconst X dX6_seek_32 ?_
        refine r_iald X dX6_seek_33 z_c81 (by decide) ⟨by omega, by omega⟩ ?_
        refine r_eqi (y := V 0) (by rw [hFw 81 (by decide), z_up_c (by decide)]; exact hM.1 0 (by omega) (by omega)) ?_
        refine r_icmp_ge (tgt := 61) X dX6_seek_34 ⟨⟨by omega, by omega⟩, by omega, by omega⟩ (fun h34 => ?_) (fun h34 => ?_)
        · refine r_iconst X dX6_seek_61 ?_
          refine r_istore3 X dX6_seek_62 ?_
          have hW0 := hWw 0 (by omega) (by omega)
          refine r_aload0 X dX6_seek_63 ?_
          refine r_get X 13 dX6_seek_64 z_c80 in_X6 tw_571 (by decide) rfl rfl (by decide) ?_
          refine r_aload0 X dX6_seek_67 ?_
          refine r_get X 14 dX6_seek_68 z_c80 in_X6 tw_572 (by decide) rfl rfl (by decide) ?_
          refine r_iconst X dX6_seek_71 ?_
          refine r_iald X dX6_seek_72 z_c93 (by decide) ⟨by omega, by omega⟩ ?_
          refine r_iconst X dX6_seek_73 ?_
          refine r_iast X dX6_seek_74 z_c92 (by decide) ⟨by omega, by omega⟩ ?_
          have hmV : m = V 0 := by omega
          rw [hmV] at hn0 hw
          have hn1 : n0 = (vN V : Int) := hn0
          have hw1 : ∀ t : Nat, t < vN V → σ1 93 (t : Int) = vw V t := hw
          have hE1 : mE σ1 V (K : Int) gt := by
            refine ⟨hV, hM.of ?_ ?_ ?_ ?_, hp5, fun q t ht => ?_, hc1⟩
            · rw [hFw 81 (by decide), z_up_c (by decide)]
            · rw [hFw 82 (by decide), z_up_c (by decide)]
            · rw [hFw 83 (by decide), z_up_c (by decide)]
            · rw [hFw 84 (by decide), z_up_c (by decide)]
            · rw [hFw 88 (by decide), z_up_c (by decide)]
              exact hgt q t ht
          have hnd := vn_in hV (k := (K : Int)) hp5
          have hN6 := vN_le hv0
          have hstp : ∀ t d : Nat, t < vN V → d < (vn V (K : Int)).toNat → 0 ≤ vst V (K : Int) gt t d ∧ vst V (K : Int) gt t d ≤ 40 := fun t d ht hd => vst_in hV hp5 (fun q => (hgt q t ht).2) (by omega)
          obtain ⟨T, hT⟩ : ∃ T : zAcc, vD V (K : Int) gt = T := ⟨_, rfl⟩
          have hX : ∀ (σ2 : zSt) (o4 : Option Value), AccM σ2 V (K : Int) T → zFB σ1 σ2 (K : Int) → z_G pg l e (z_rm 4) s mm ([.ref (a 80), .int (zI (K : Int))] : List Value).toArray below meth c 5 D κ a A 0 0 (MQ below (z_Qq D κ a A (fun σ' => AccM σ' V (K : Int) (vS V K) ∧ zFC σ σ' (K : Int) ∧ zWho σ')) ([.ref (a 80), .int (zI (K : Int))] : List Value).toArray s 0 0 A) σ2 [some (.ref (a 80)), some (.int (zI (K : Int))), some (.int (zI (vN V : Int))), some (.int (zI (-1))), o4] 75 [] := by
            intro σ2 o4 hA2 hF2
            refine r_iload3 X dX6_seek_75 ?_
            refine r_if_lt (tgt := 186) X dX6_seek_76 ⟨by omega, by omega⟩ (fun h76 => ?_) (fun h76 => ?_)
            · exact r_vretp X M dX6_seek_186 ⟨by rw [hvS, hT]; exact hA2, ⟨fun c hc => by rw [hF2.1 c (by omega) (by omega) (by omega) (by omega) (by omega), hFw c (by omega), z_up_c (by omega)], fun x hx => by rw [(hF2.2.1 x hx).1, (hF2.2.1 x hx).2.1, (hF2.2.1 x hx).2.2, hFw 89 (by decide), hFw 90 (by decide), hFw 91 (by decide), z_up_j hx, z_up_c (by decide), z_up_c (by decide)]; exact ⟨rfl, rfl, rfl⟩, fun j hj => by rw [hF2.2.2 j hj, hFw 88 (by decide), z_up_c (by decide)]⟩, hWw.of (hF2.1 93 (by decide) (by decide) (by decide) (by decide) (by decide))⟩
            · exfalso
              omega
          have LM : ∀ (r t : Nat) (tk : Nat → Int) (g s0 : Int) (c0 : zAcc) (rest : zAcc → zAcc) (σ2 : zSt) (o4 : Option Value) (at0 : Int), at0 = (t : Int) → t + r = vN V → mI σ1 σ2 V (K : Int) gt t tk c0 → g = cg (vst V (K : Int) gt) tk t → s0 = cs (vst V (K : Int) gt) tk t → (0 < r → σ2 92 (vw V t) = -1) → T = rest (dfs (vok V (K : Int) gt) (vst V (K : Int) gt) (vfin V (K : Int)) (vn V (K : Int)).toNat r t tk g s0 c0) → ((K : Int) = 0 → ∀ c : zAcc, c.1 = 1 → c.2.1 = 0 → c.2.2.1 = 0 → rest c = c) → (∀ (c1 : zAcc) (σ3 : zSt) (o5 : Option Value) (at1 : Int), at1 = (t : Int) - 1 → T = rest c1 → mI σ1 σ3 V (K : Int) gt t tk c1 → z_G pg l e (z_rm 4) s mm ([.ref (a 80), .int (zI (K : Int))] : List Value).toArray below meth c 5 D κ a A 0 0 (MQ below (z_Qq D κ a A (fun σ' => AccM σ' V (K : Int) (vS V K) ∧ zFC σ σ' (K : Int) ∧ zWho σ')) ([.ref (a 80), .int (zI (K : Int))] : List Value).toArray s 0 0 A) σ3 [some (.ref (a 80)), some (.int (zI (K : Int))), some (.int (zI (vN V : Int))), some (.int (zI at1)), o5] 75 []) → z_G pg l e (z_rm 4) s mm ([.ref (a 80), .int (zI (K : Int))] : List Value).toArray below meth c 5 D κ a A 0 0 (MQ below (z_Qq D κ a A (fun σ' => AccM σ' V (K : Int) (vS V K) ∧ zFC σ σ' (K : Int) ∧ zWho σ')) ([.ref (a 80), .int (zI (K : Int))] : List Value).toArray s 0 0 A) σ2 [some (.ref (a 80)), some (.int (zI (K : Int))), some (.int (zI (vN V : Int))), some (.int (zI at0)), o4] 75 [] := by
            intro r
            induction r with
            | zero =>
              intro t tk g s0 c0 rest σ2 o4 at0 hat htr hI hg hs _ hTr hR0 hk
              have hE2 := hE1.fb hI.1
              refine r_iload3 X dX6_seek_75 ?_
              refine r_if_lt (tgt := 186) X dX6_seek_76 ⟨by omega, by omega⟩ (fun h76 => ?_) (fun h76 => ?_)
              · exfalso
                omega
              · refine r_iload3 X dX6_seek_79 ?_
                refine r_iload2 X dX6_seek_80 ?_
                refine r_icmp_ne (tgt := 113) X dX6_seek_81 ⟨⟨by omega, by omega⟩, by omega, by omega⟩ (fun h81 => ?_) (fun h81 => ?_)
                · exfalso
                  omega
                · refine r_aload0 X dX6_seek_84 ?_
                  refine r_iload1 X dX6_seek_85 ?_
                  refine r_callVq (n := 1) X (c_X6_takes l X.2.2.1 _ _ tk gt g s0 c0 V hE2 (fun i hi => ⟨(hI.2.2.1 i (by omega)).1, (hI.2.2.1 i (by omega)).2.1, by have := (hI.2.2.1 i (by omega)).2.2; omega⟩) (fun i hi => (hI.2.2.1 i (by omega)).2) hI.2.1 (by rw [hg, show t = vN V by omega]) (by rw [hs, show t = vN V by omega])) dX6_seek_86 tw_723 tw_725 tw_26 tw_46 tw_726 z_c80 (by decide) rfl rfl (Nat.le_of_ble_eq_true rfl) ⟨by decide, by decide⟩ (by decide +kernel) rfl (fun σ3 h3 => ?_)
                  refine r_iload1 X dX6_seek_89 ?_
                  refine r_if_ne (tgt := 106) X dX6_seek_90 ⟨by omega, by omega⟩ (fun h90 => ?_) (fun h90 => ?_)
                  · refine r_iload3 X dX6_seek_106 ?_
                    refine r_iconst X dX6_seek_107 ?_
                    refine r_isub X dX6_seek_108 ?_
                    refine r_istore3 X dX6_seek_109 ?_
                    refine r_goto (tgt := 75) X dX6_seek_110 (by decide) ?_
                    first
                    | exact hk _ _ _ _ (by omega) (by rw [hTr, dfs_0]) ⟨hI.1.fa h3.2, h3.1, fun i hi => by rw [h3.2.1 92 (by decide) (by decide) (by decide) (by decide)]; exact hI.2.2.1 i hi, fun q => by first | exact absurd q (by omega) | (have q2 := h3.1.1; rw [q] at q2; omega)⟩
                    | exact hX _ _ hTX (hI.1.fa h3.2)
                  · have hgd3 := h3.1.2.1.1
                    refine r_aload0 X dX6_seek_93 ?_
                    refine r_get X 10 dX6_seek_94 z_c80 in_X6 tw_568 (by decide) rfl rfl (by decide) ?_
                    refine r_iconst X dX6_seek_97 ?_
                    refine r_zald X dX6_seek_98 z_c89 (by decide) ⟨by omega, by omega⟩ ?_
                    refine r_eqi (y := (cIf (vfin V (K : Int) tk ∧ better g s0 c0) (1, g, s0, tk) c0 : zAcc).1) (by have q := h3.1.1; rw [show (K : Int) = 0 by omega] at q ⊢; exact q) ?_
                    refine r_if_eq (tgt := 106) X dX6_seek_99 ⟨by omega, by omega⟩ (fun h99 => ?_) (fun h99 => ?_)
                    · refine r_iload3 X dX6_seek_106 ?_
                      refine r_iconst X dX6_seek_107 ?_
                      refine r_isub X dX6_seek_108 ?_
                      refine r_istore3 X dX6_seek_109 ?_
                      refine r_goto (tgt := 75) X dX6_seek_110 (by decide) ?_
                      first
                      | exact hk _ _ _ _ (by omega) (by rw [hTr, dfs_0]) ⟨hI.1.fa h3.2, h3.1, fun i hi => by rw [h3.2.1 92 (by decide) (by decide) (by decide) (by decide)]; exact hI.2.2.1 i hi, fun q => by first | exact absurd q (by omega) | (have q2 := h3.1.1; rw [q] at q2; omega)⟩
                      | exact hX _ _ hTX (hI.1.fa h3.2)
                    · have hTX : AccM σ3 V (K : Int) T := by
                        have hc00 := hI.2.2.2 (by omega)
                        have hb : vfin V (K : Int) tk ∧ better g s0 c0 := Classical.byContradiction (fun q => by rw [cIf_f q] at h99; exact h99 hc00)
                        have h31 := h3.1
                        rw [cIf_t hb] at h31
                        rw [hTr, dfs_0, cIf_t hb, hR0 (by omega) _ rfl (by show g = 0; rw [hg, show (K : Int) = 0 by omega]; exact (cg_p0 _).1) (by show s0 = 0; rw [hs, show (K : Int) = 0 by omega]; exact (cg_p0 _).2)]
                        exact h31
                      refine r_iconst X dX6_seek_102 ?_
                      refine r_goto (tgt := 109) X dX6_seek_103 (by decide) ?_
                      refine r_istore3 X dX6_seek_109 ?_
                      refine r_goto (tgt := 75) X dX6_seek_110 (by decide) ?_
                      first
                      | exact hk _ _ _ _ (by omega) (by rw [hTr, dfs_0]) ⟨hI.1.fa h3.2, h3.1, fun i hi => by rw [h3.2.1 92 (by decide) (by decide) (by decide) (by decide)]; exact hI.2.2.1 i hi, fun q => by first | exact absurd q (by omega) | (have q2 := h3.1.1; rw [q] at q2; omega)⟩
                      | exact hX _ _ hTX (hI.1.fa h3.2)
            | succ r ihr =>
              intro t tk g s0 c0' rest σ2' o4' at0' hat' htr hI' hg hs htd' hTr' hR0 hk
              rw [dfs_lpf] at hTr'
              have htN : t < vN V := by omega
              have hwt := (vw_in htN).1
              have hgr := cg_in hV hp5 (gt := gt) (tk := tk) (fun q u hu => (hgt q u hu).2) t (by omega) (fun i hi => by have := (hI'.2.2.1 i hi).2; omega)
              have LD : ∀ (k d : Nat) (c0 : zAcc) (σ2 : zSt) (o4 : Option Value) (at0 : Int), at0 = (t : Int) → d + k = (vn V (K : Int)).toNat → mI σ1 σ2 V (K : Int) gt t tk c0 → σ2 92 (vw V t) = (d : Int) - 1 → T = rest (lpf (dstep (vok V (K : Int) gt) (vst V (K : Int) gt) (vfin V (K : Int)) (vn V (K : Int)).toNat r t tk g s0) d k c0) → z_G pg l e (z_rm 4) s mm ([.ref (a 80), .int (zI (K : Int))] : List Value).toArray below meth c 5 D κ a A 0 0 (MQ below (z_Qq D κ a A (fun σ' => AccM σ' V (K : Int) (vS V K) ∧ zFC σ σ' (K : Int) ∧ zWho σ')) ([.ref (a 80), .int (zI (K : Int))] : List Value).toArray s 0 0 A) σ2 [some (.ref (a 80)), some (.int (zI (K : Int))), some (.int (zI (vN V : Int))), some (.int (zI at0)), o4] 75 [] := by
                intro k
                induction k with
                | zero =>
                  intro d c0 σ2 o4 at0 hat hdk hI htd hTr
                  have hE2 := hE1.fb hI.1
                  have hE3 := hE1.fb (hI.1.up (vw V t) (d : Int))
                  have h93 : σ2 93 = σ1 93 := hI.1.1 93 (by decide) (by decide) (by decide) (by decide) (by decide)
                  refine r_iload3 X dX6_seek_75 ?_
                  refine r_if_lt (tgt := 186) X dX6_seek_76 ⟨by omega, by omega⟩ (fun h76 => ?_) (fun h76 => ?_)
                  · exfalso
                    omega
                  · refine r_iload3 X dX6_seek_79 ?_
                    refine r_iload2 X dX6_seek_80 ?_
                    refine r_icmp_ne (tgt := 113) X dX6_seek_81 ⟨⟨by omega, by omega⟩, by omega, by omega⟩ (fun h81 => ?_) (fun h81 => ?_)
                    · refine r_aload0 X dX6_seek_113 ?_
                      refine r_get X 14 dX6_seek_114 z_c80 in_X6 tw_572 (by decide) rfl rfl (by decide) ?_
                      refine r_iload3 X dX6_seek_117 ?_
                      refine r_iald X dX6_seek_118 z_c93 (by decide) ⟨by omega, by omega⟩ ?_
                      refine r_eqi (y := vw V t) (by rw [h93, hat]; exact hw1 t htN) ?_
                      refine r_istore4 X dX6_seek_119 ?_
                      refine r_aload0 X dX6_seek_121 ?_
                      refine r_get X 13 dX6_seek_122 z_c80 in_X6 tw_571 (by decide) rfl rfl (by decide) ?_
                      refine r_iload4 X dX6_seek_125 ?_
                      refine r_dup2 X dX6_seek_127 rfl rfl ?_
                      refine r_iald X dX6_seek_128 z_c92 (by decide) ⟨by omega, by omega⟩ ?_
                      refine r_eqi htd ?_
                      refine r_iconst X dX6_seek_129 ?_
                      refine r_iadd X dX6_seek_130 ?_
                      refine r_eqi (y := (d : Int)) (by omega) ?_
                      refine r_iast X dX6_seek_131 z_c92 (by decide) ⟨by omega, by omega⟩ ?_
                      refine r_aload0 X dX6_seek_132 ?_
                      refine r_get X 13 dX6_seek_133 z_c80 in_X6 tw_571 (by decide) rfl rfl (by decide) ?_
                      refine r_iload4 X dX6_seek_136 ?_
                      refine r_iald X dX6_seek_138 z_c92 (by decide) ⟨by omega, by omega⟩ ?_
                      refine r_eqi (y := (d : Int)) z_up_s ?_
                      refine r_aload0 X dX6_seek_139 ?_
                      refine r_iload1 X dX6_seek_140 ?_
                      refine r_callVi (n := 1) X (c_X6_dotMany l X.2.2.1 _ _ ⟨by omega, by omega⟩) dX6_seek_141 tw_662 tw_664 tw_20 tw_46 tw_665 z_c80 (by decide) rfl rfl (Nat.le_of_ble_eq_true rfl) ⟨by decide, by decide⟩ (by decide +kernel) rfl ?_
                      refine r_eqi (y := vn V (K : Int)) (hE3.2.1.2.2.1 _ (by omega) (by omega)) ?_
                      refine r_icmp_ne (tgt := 153) X dX6_seek_144 ⟨⟨by omega, by omega⟩, by omega, by omega⟩ (fun h144 => ?_) (fun h144 => ?_)
                      · exfalso
                        omega
                      · refine r_iinc3 X dX6_seek_147 ?_
                        refine r_goto (tgt := 183) X dX6_seek_150 (by decide) ?_
                        refine r_goto (tgt := 75) X dX6_seek_183 (by decide) ?_
                        exact hk c0 _ _ _ (by omega) hTr ⟨hI.1.up _ _, hI.2.1.up _ _ (by decide), fun i hi => by have q2 := vw_lt (V := V) hi htN; rw [z_up_j (by omega)]; exact hI.2.2.1 i hi, hI.2.2.2⟩
                    · exfalso
                      omega
                | succ k ihk =>
                  intro d c0 σ2 o4 at0 hat hdk hI htd hTr
                  have hE2 := hE1.fb hI.1
                  have hE3 := hE1.fb (hI.1.up (vw V t) (d : Int))
                  have h93 : σ2 93 = σ1 93 := hI.1.1 93 (by decide) (by decide) (by decide) (by decide) (by decide)
                  have hTr2 : T = rest (lpf (dstep (vok V (K : Int) gt) (vst V (K : Int) gt) (vfin V (K : Int)) (vn V (K : Int)).toNat r t tk g s0) (d + 1) k (dstep (vok V (K : Int) gt) (vst V (K : Int) gt) (vfin V (K : Int)) (vn V (K : Int)).toNat r t tk g s0 d c0)) := hTr
                  refine r_iload3 X dX6_seek_75 ?_
                  refine r_if_lt (tgt := 186) X dX6_seek_76 ⟨by omega, by omega⟩ (fun h76 => ?_) (fun h76 => ?_)
                  · exfalso
                    omega
                  · refine r_iload3 X dX6_seek_79 ?_
                    refine r_iload2 X dX6_seek_80 ?_
                    refine r_icmp_ne (tgt := 113) X dX6_seek_81 ⟨⟨by omega, by omega⟩, by omega, by omega⟩ (fun h81 => ?_) (fun h81 => ?_)
                    · refine r_aload0 X dX6_seek_113 ?_
                      refine r_get X 14 dX6_seek_114 z_c80 in_X6 tw_572 (by decide) rfl rfl (by decide) ?_
                      refine r_iload3 X dX6_seek_117 ?_
                      refine r_iald X dX6_seek_118 z_c93 (by decide) ⟨by omega, by omega⟩ ?_
                      refine r_eqi (y := vw V t) (by rw [h93, hat]; exact hw1 t htN) ?_
                      refine r_istore4 X dX6_seek_119 ?_
                      refine r_aload0 X dX6_seek_121 ?_
                      refine r_get X 13 dX6_seek_122 z_c80 in_X6 tw_571 (by decide) rfl rfl (by decide) ?_
                      refine r_iload4 X dX6_seek_125 ?_
                      refine r_dup2 X dX6_seek_127 rfl rfl ?_
                      refine r_iald X dX6_seek_128 z_c92 (by decide) ⟨by omega, by omega⟩ ?_
                      refine r_eqi htd ?_
                      refine r_iconst X dX6_seek_129 ?_
                      refine r_iadd X dX6_seek_130 ?_
                      refine r_eqi (y := (d : Int)) (by omega) ?_
                      refine r_iast X dX6_seek_131 z_c92 (by decide) ⟨by omega, by omega⟩ ?_
                      refine r_aload0 X dX6_seek_132 ?_
                      refine r_get X 13 dX6_seek_133 z_c80 in_X6 tw_571 (by decide) rfl rfl (by decide) ?_
                      refine r_iload4 X dX6_seek_136 ?_
                      refine r_iald X dX6_seek_138 z_c92 (by decide) ⟨by omega, by omega⟩ ?_
                      refine r_eqi (y := (d : Int)) z_up_s ?_
                      refine r_aload0 X dX6_seek_139 ?_
                      refine r_iload1 X dX6_seek_140 ?_
                      refine r_callVi (n := 1) X (c_X6_dotMany l X.2.2.1 _ _ ⟨by omega, by omega⟩) dX6_seek_141 tw_662 tw_664 tw_20 tw_46 tw_665 z_c80 (by decide) rfl rfl (Nat.le_of_ble_eq_true rfl) ⟨by decide, by decide⟩ (by decide +kernel) rfl ?_
                      refine r_eqi (y := vn V (K : Int)) (hE3.2.1.2.2.1 _ (by omega) (by omega)) ?_
                      refine r_icmp_ne (tgt := 153) X dX6_seek_144 ⟨⟨by omega, by omega⟩, by omega, by omega⟩ (fun h144 => ?_) (fun h144 => ?_)
                      · refine r_aload0 X dX6_seek_153 ?_
                        refine r_iload1 X dX6_seek_154 ?_
                        refine r_iload4 X dX6_seek_155 ?_
                        refine r_callVp (n := 2) X (c_X6_mayGo l X.2.2.1 _ _ t tk gt d V hE3 (by omega) (fun i hi => by have q := hI.2.2.1 i hi; have q2 := vw_lt (V := V) hi (by omega); rw [z_up_j (by omega)]; exact ⟨q.1, q.2.1, by omega⟩) z_up_s (by omega)) dX6_seek_157 tw_749 tw_751 tw_31 tw_46 tw_752 z_c80 (by decide) rfl rfl (Nat.le_of_ble_eq_true rfl) ⟨by decide, by decide⟩ (by decide +kernel) rfl (fun z4 σ4 h4 => ?_)
                        have hs4 := h4.1.symm
                        subst hs4
                        refine r_if_eq (tgt := 183) X dX6_seek_160 ⟨by omega, by omega⟩ (fun h160 => ?_) (fun h160 => ?_)
                        · refine r_goto (tgt := 75) X dX6_seek_183 (by decide) ?_
                          first
                          | exact ihr (t + 1) (tkU tk t (d : Int)) (max g (vst V (K : Int) gt t d)) (s0 + vst V (K : Int) gt t d) c0 (fun c => rest (lpf (dstep (vok V (K : Int) gt) (vst V (K : Int) gt) (vfin V (K : Int)) (vn V (K : Int)).toNat r t tk g s0) (d + 1) k c)) _ _ _ (by omega) (by omega) hI5 hg5 hs5 (fun q => by omega) hT5 hR5 hk5
                          | exact ihr (t + 1) (tkU tk t (d : Int)) (max g (vst V (K : Int) gt t d)) (s0 + vst V (K : Int) gt t d) c0 (fun c => rest (lpf (dstep (vok V (K : Int) gt) (vst V (K : Int) gt) (vfin V (K : Int)) (vn V (K : Int)).toNat r t tk g s0) (d + 1) k c)) _ _ _ (by omega) (by omega) ⟨hI5.1.up _ _, hI5.2.1.up _ _ (by decide), fun i hi => by have q2 := vw_lt (V := V) hi (show t + 1 < vN V by omega); rw [z_up_j (by omega)]; exact hI5.2.2.1 i hi, hI5.2.2.2⟩ hg5 hs5 (fun _ => z_up_s) hT5 hR5 hk5
                          | exact ihk (d + 1) c0 _ _ _ hat (by omega) ⟨hI.1.up _ _, hI.2.1.up _ _ (by decide), fun i hi => by have q2 := vw_lt (V := V) hi htN; rw [z_up_j (by omega)]; exact hI.2.2.1 i hi, hI.2.2.2⟩ (by rw [z_up_s]; omega) (by rw [hTr2]; unfold dstep; rw [cIf_f (fun q => by have := h4.2.2.mpr q; omega)])
                        · have hok : vok V (K : Int) gt t tk d := h4.2.2.mp (by omega)
                          have hstd := hstp t d htN (by omega)
                          have hg5 : max g (vst V (K : Int) gt t d) = cg (vst V (K : Int) gt) (tkU tk t (d : Int)) (t + 1) := by
                            unfold cg
                            rw [(cg_c t (fun i hi => tkU_n (tk := tk) (t := t) (d := (d : Int)) (show i ≠ t by omega))).1, tkU_s, ← hg]
                            rfl
                          have hs5 : s0 + vst V (K : Int) gt t d = cs (vst V (K : Int) gt) (tkU tk t (d : Int)) (t + 1) := by
                            unfold cs
                            rw [(cg_c t (fun i hi => tkU_n (tk := tk) (t := t) (d := (d : Int)) (show i ≠ t by omega))).2, tkU_s, ← hs]
                            rfl
                          have hT5 : T = (fun c => rest (lpf (dstep (vok V (K : Int) gt) (vst V (K : Int) gt) (vfin V (K : Int)) (vn V (K : Int)).toNat r t tk g s0) (d + 1) k c)) (dfs (vok V (K : Int) gt) (vst V (K : Int) gt) (vfin V (K : Int)) (vn V (K : Int)).toNat r (t + 1) (tkU tk t (d : Int)) (max g (vst V (K : Int) gt t d)) (s0 + vst V (K : Int) gt t d) c0) := by
                            rw [hTr2]
                            unfold dstep
                            rw [cIf_t hok]
                          have hR5 : (K : Int) = 0 → ∀ c : zAcc, c.1 = 1 → c.2.1 = 0 → c.2.2.1 = 0 → (fun c => rest (lpf (dstep (vok V (K : Int) gt) (vst V (K : Int) gt) (vfin V (K : Int)) (vn V (K : Int)).toNat r t tk g s0) (d + 1) k c)) c = c := by
                            intro q c e1 e2 e3
                            show rest (lpf _ (d + 1) k c) = c
                            rw [lpf_id k (d + 1) (fun i i1 i2 => by
                              unfold dstep
                              by_cases e : vok V (K : Int) gt t tk i
                              · rw [cIf_t e]
                                have hsi := hstp t i htN (by omega)
                                exact dfs_nbN hstp r (t + 1) _ _ _ c (by omega) (fun q => by unfold better at q; omega)
                              · exact cIf_f e)]
                            exact hR0 q c e1 e2 e3
                          have hk5 : ∀ (c1 : zAcc) (σ3 : zSt) (o5 : Option Value) (at1 : Int), at1 = ((t + 1 : Nat) : Int) - 1 → T = (fun c => rest (lpf (dstep (vok V (K : Int) gt) (vst V (K : Int) gt) (vfin V (K : Int)) (vn V (K : Int)).toNat r t tk g s0) (d + 1) k c)) c1 → mI σ1 σ3 V (K : Int) gt (t + 1) (tkU tk t (d : Int)) c1 → z_G pg l e (z_rm 4) s mm ([.ref (a 80), .int (zI (K : Int))] : List Value).toArray below meth c 5 D κ a A 0 0 (MQ below (z_Qq D κ a A (fun σ' => AccM σ' V (K : Int) (vS V K) ∧ zFC σ σ' (K : Int) ∧ zWho σ')) ([.ref (a 80), .int (zI (K : Int))] : List Value).toArray s 0 0 A) σ3 [some (.ref (a 80)), some (.int (zI (K : Int))), some (.int (zI (vN V : Int))), some (.int (zI at1)), o5] 75 [] := by
                            intro c1 σ3 o5 at1 hat1 hT1 hI1
                            refine ihk (d + 1) c1 σ3 o5 at1 (by omega) (by omega) ⟨hI1.1, hI1.2.1, fun i hi => ?_, hI1.2.2.2⟩ ?_ hT1
                            · have q := hI1.2.2.1 i (by omega)
                              rw [tkU_n (by omega)] at q
                              exact q
                            · have q := (hI1.2.2.1 t (by omega)).1
                              rw [tkU_s] at q
                              omega
                          have hI5 : mI σ1 (z_up σ2 92 (vw V t) (d : Int)) V (K : Int) gt (t + 1) (tkU tk t (d : Int)) c0 := by
                            refine ⟨hI.1.up _ _, hI.2.1.up _ _ (by decide), fun i hi => ?_, hI.2.2.2⟩
                            by_cases e : i = t
                            · subst e
                              rw [z_up_s, tkU_s]
                              omega
                            · have q2 := vw_lt (V := V) (show i < t by omega) htN
                              rw [z_up_j (by omega), tkU_n e]
                              exact hI.2.2.1 i (by omega)
                          refine r_iinc3 X dX6_seek_163 ?_
                          refine r_iload3 X dX6_seek_166 ?_
                          refine r_iload2 X dX6_seek_167 ?_
                          refine r_icmp_ge (tgt := 183) X dX6_seek_168 ⟨⟨by omega, by omega⟩, by omega, by omega⟩ (fun h168 => ?_) (fun h168 => ?_)
                          · refine r_goto (tgt := 75) X dX6_seek_183 (by decide) ?_
                            first
                            | exact ihr (t + 1) (tkU tk t (d : Int)) (max g (vst V (K : Int) gt t d)) (s0 + vst V (K : Int) gt t d) c0 (fun c => rest (lpf (dstep (vok V (K : Int) gt) (vst V (K : Int) gt) (vfin V (K : Int)) (vn V (K : Int)).toNat r t tk g s0) (d + 1) k c)) _ _ _ (by omega) (by omega) hI5 hg5 hs5 (fun q => by omega) hT5 hR5 hk5
                            | exact ihr (t + 1) (tkU tk t (d : Int)) (max g (vst V (K : Int) gt t d)) (s0 + vst V (K : Int) gt t d) c0 (fun c => rest (lpf (dstep (vok V (K : Int) gt) (vst V (K : Int) gt) (vfin V (K : Int)) (vn V (K : Int)).toNat r t tk g s0) (d + 1) k c)) _ _ _ (by omega) (by omega) ⟨hI5.1.up _ _, hI5.2.1.up _ _ (by decide), fun i hi => by have q2 := vw_lt (V := V) hi (show t + 1 < vN V by omega); rw [z_up_j (by omega)]; exact hI5.2.2.1 i hi, hI5.2.2.2⟩ hg5 hs5 (fun _ => z_up_s) hT5 hR5 hk5
                            | exact ihk (d + 1) c0 _ _ _ hat (by omega) ⟨hI.1.up _ _, hI.2.1.up _ _ (by decide), fun i hi => by have q2 := vw_lt (V := V) hi htN; rw [z_up_j (by omega)]; exact hI.2.2.1 i hi, hI.2.2.2⟩ (by rw [z_up_s]; omega) (by rw [hTr2]; unfold dstep; rw [cIf_f (fun q => by have := h4.2.2.mpr q; omega)])
                          · have hw5 := (vw_in (V := V) (t := t + 1) (by omega)).1
                            refine r_aload0 X dX6_seek_171 ?_
                            refine r_get X 13 dX6_seek_172 z_c80 in_X6 tw_571 (by decide) rfl rfl (by decide) ?_
                            refine r_aload0 X dX6_seek_175 ?_
                            refine r_get X 14 dX6_seek_176 z_c80 in_X6 tw_572 (by decide) rfl rfl (by decide) ?_
                            refine r_iload3 X dX6_seek_179 ?_
                            refine r_iald X dX6_seek_180 z_c93 (by decide) ⟨by omega, by omega⟩ ?_
                            refine r_eqi (y := vw V (t + 1)) (by rw [z_up_c (by decide), h93, hat]; exact hw1 (t + 1) (by omega)) ?_
                            refine r_iconst X dX6_seek_181 ?_
                            refine r_iast X dX6_seek_182 z_c92 (by decide) ⟨by omega, by omega⟩ ?_
                            refine r_goto (tgt := 75) X dX6_seek_183 (by decide) ?_
                            first
                            | exact ihr (t + 1) (tkU tk t (d : Int)) (max g (vst V (K : Int) gt t d)) (s0 + vst V (K : Int) gt t d) c0 (fun c => rest (lpf (dstep (vok V (K : Int) gt) (vst V (K : Int) gt) (vfin V (K : Int)) (vn V (K : Int)).toNat r t tk g s0) (d + 1) k c)) _ _ _ (by omega) (by omega) hI5 hg5 hs5 (fun q => by omega) hT5 hR5 hk5
                            | exact ihr (t + 1) (tkU tk t (d : Int)) (max g (vst V (K : Int) gt t d)) (s0 + vst V (K : Int) gt t d) c0 (fun c => rest (lpf (dstep (vok V (K : Int) gt) (vst V (K : Int) gt) (vfin V (K : Int)) (vn V (K : Int)).toNat r t tk g s0) (d + 1) k c)) _ _ _ (by omega) (by omega) ⟨hI5.1.up _ _, hI5.2.1.up _ _ (by decide), fun i hi => by have q2 := vw_lt (V := V) hi (show t + 1 < vN V by omega); rw [z_up_j (by omega)]; exact hI5.2.2.1 i hi, hI5.2.2.2⟩ hg5 hs5 (fun _ => z_up_s) hT5 hR5 hk5
                            | exact ihk (d + 1) c0 _ _ _ hat (by omega) ⟨hI.1.up _ _, hI.2.1.up _ _ (by decide), fun i hi => by have q2 := vw_lt (V := V) hi htN; rw [z_up_j (by omega)]; exact hI.2.2.1 i hi, hI.2.2.2⟩ (by rw [z_up_s]; omega) (by rw [hTr2]; unfold dstep; rw [cIf_f (fun q => by have := h4.2.2.mpr q; omega)])
                      · exfalso
                        omega
                    · exfalso
                      omega
              exact LD (vn V (K : Int)).toNat 0 c0' σ2' o4' at0' hat' (by omega) hI' (by have := htd' (by omega); omega) hTr'
          rw [hn1]
          refine LM (vN V) 0 (fun _ => 0) 0 0 zAcc0 (fun c => c) (z_up σ1 92 (σ1 93 0) (-1)) none 0 rfl (by omega) ⟨(zFB.refl σ1 _).up _ _, (show AccM σ1 V (K : Int) zAcc0 from ⟨by rw [hFw 89 (by decide), z_up_s], ⟨Or.inl rfl, fun h => by cases h⟩, fun h => by cases h⟩).up _ _ (by decide), fun i hi => by omega, fun _ => rfl⟩ rfl rfl (fun q => by have h0 : σ1 93 0 = vw V 0 := hw1 0 q; rw [← h0]; exact z_up_s) hT.symm (fun _ _ _ _ _ => rfl) (fun c1 σ3 o5 at1 hat1 hT1 hI1 => ?_)
          rw [show at1 = -1 by omega]
          exact hX σ3 o5 (by rw [hT1]; exact hI1.2.1) hI1.1
        · have q1 := hvm m (by omega) (by omega)
          rw [show 7 + 2 * m = 6 + (2 * m + 1) by omega] at q1
          have hil : σ1 82 (2 * m + 1) = V (6 + (2 * m + 1)) := by rw [hFw 82 (by decide), z_up_c (by decide)]; exact hM.2.1 _ (by omega) (by omega)
          have hsz : vWl V (m + 1).toNat = vWl V m.toNat ++ (if V (6 + (2 * m + 1)) = 0 then [m.toNat] else []) := by
            rw [show (m + 1).toNat = m.toNat + 1 by omega, vWl_s, show ((m.toNat : Nat) : Int) = m by omega]
          refine r_aload0 X dX6_seek_37 ?_
          refine r_iload3 X dX6_seek_38 ?_
          refine r_callVi (n := 1) X (c_X6_isIll l X.2.2.1 _ _ ⟨by omega, by omega⟩ ⟨by omega, by omega⟩) dX6_seek_39 tw_711 tw_713 tw_23 tw_46 tw_714 z_c80 (by decide) rfl rfl (Nat.le_of_ble_eq_true rfl) ⟨by decide, by decide⟩ (by decide +kernel) rfl ?_
          refine r_if_neB (tgt := 55) X dX6_seek_42 (fun h42 => ?_) (fun h42 => ?_)
          · refine r_iinc3 X dX6_seek_55 ?_
            refine r_goto (tgt := 27) X dX6_seek_58 (by decide) ?_
            first
            | exact ihL (m + 1) _ _ (by omega) (by omega) (by omega) (by rw [hsz, if_neg (by omega), List.append_nil]; exact hn0) hFw hWw (by rw [hsz, if_neg (by omega), List.append_nil]; exact hw)
            | exact ihL (m + 1) _ _ (by omega) (by omega) (by omega) (by rw [hsz, if_pos (by omega), List.length_append]; simp; exact hn0) (fun c hc => by rw [z_up_c hc]; exact hFw c hc) (fun j j0 j1 => by
                rw [z_up_a]
                split
                · omega
                · exact hWw j j0 j1) (fun t ht => by
                rw [hsz, if_pos (by omega)] at ht ⊢
                rw [z_up_a]
                by_cases e : t < (vWl V m.toNat).length
                · rw [if_neg (by omega), List.getElem?_append_left e]
                  exact hw t e
                · rw [List.length_append] at ht
                  simp at ht
                  rw [if_pos ⟨rfl, by omega⟩, List.getElem?_append_right (by omega), show t - (vWl V m.toNat).length = 0 by omega]
                  simp
                  omega)
          · refine r_aload0 X dX6_seek_45 ?_
            refine r_get X 14 dX6_seek_46 z_c80 in_X6 tw_572 (by decide) rfl rfl (by decide) ?_
            refine r_iload2 X dX6_seek_49 ?_
            refine r_iload3 X dX6_seek_50 ?_
            refine r_iast X dX6_seek_51 z_c93 (by decide) ⟨by omega, by omega⟩ ?_
            refine r_iinc2 X dX6_seek_52 ?_
            refine r_iinc3 X dX6_seek_55 ?_
            refine r_goto (tgt := 27) X dX6_seek_58 (by decide) ?_
            first
            | exact ihL (m + 1) _ _ (by omega) (by omega) (by omega) (by rw [hsz, if_neg (by omega), List.append_nil]; exact hn0) hFw hWw (by rw [hsz, if_neg (by omega), List.append_nil]; exact hw)
            | exact ihL (m + 1) _ _ (by omega) (by omega) (by omega) (by rw [hsz, if_pos (by omega), List.length_append]; simp; exact hn0) (fun c hc => by rw [z_up_c hc]; exact hFw c hc) (fun j j0 j1 => by
                rw [z_up_a]
                split
                · omega
                · exact hWw j j0 j1) (fun t ht => by
                rw [hsz, if_pos (by omega)] at ht ⊢
                rw [z_up_a]
                by_cases e : t < (vWl V m.toNat).length
                · rw [if_neg (by omega), List.getElem?_append_left e]
                  exact hw t e
                · rw [List.length_append] at ht
                  simp at ht
                  rw [if_pos ⟨rfl, by omega⟩, List.getElem?_append_right (by omega), show t - (vWl V m.toNat).length = 0 by omega]
                  simp
                  omega)
    exact L 8 0 0 _ (by omega) (by omega) (by omega) rfl (fun c _ => rfl) (hW.of (z_up_c (by decide))) (fun t ht => by simp [vWl] at ht)
  refine r_aload0 X dX6_seek_0 ?_
  refine r_get X 10 dX6_seek_1 z_c80 in_X6 tw_568 (by decide) rfl rfl (by decide) ?_
  refine r_iload1 X dX6_seek_4 ?_
  refine r_iconst X dX6_seek_5 ?_
  refine r_zast X dX6_seek_6 z_c89 (by decide) ⟨by omega, by omega⟩ (by omega) ?_
  refine r_iload1 X dX6_seek_7 ?_
  refine r_if_le (tgt := 23) X dX6_seek_8 ⟨by omega, by omega⟩ (fun h8 => ?_) (fun h8 => ?_)
  · have hgS : ∃ gt : Nat → Int, ((K : Int) ≠ 0 → ∀ t, t < vN V → σ 88 (6 * ((K : Int) - 1) + vw V t) = gt t ∧ 0 ≤ gt t ∧ gt t < 7) ∧ vS V K = vD V (K : Int) gt := by
      first
      | exact ⟨fun _ => 0, fun q => absurd (show (K : Int) = 0 by omega) q, by rw [show K = 0 by omega]; rfl⟩
      | (have h1 := hprev.2.2 (by omega)
         have h2 := vn_in hV (k := (K' : Int)) (by omega)
         refine ⟨(vS V K').2.2.2, fun _ t ht => ?_, ?_⟩
         · rw [show ((K' + 1 : Nat) : Int) - 1 = (K' : Int) by omega]
           have q := (hgd.2 (by omega)).2.2 t ht
           exact ⟨h1.2.2 t ht, q.1, by omega⟩
         · show cIf ((vS V K').1 = 1) _ zAcc0 = _
           rw [cIf_t (by omega)]
           rfl)
    exact J23 hgS
  · obtain ⟨K', rfl⟩ : ∃ K' : Nat, K = K' + 1 := ⟨K - 1, by omega⟩
    have hprev := hP K' rfl
    have hset : z_up σ 89 ((K' + 1 : Nat) : Int) 0 89 (((K' + 1 : Nat) : Int) - 1) = (vS V K').1 := by
      rw [z_up_j (by omega), show ((K' + 1 : Nat) : Int) - 1 = (K' : Int) by omega]
      exact hprev.1
    have hgd := vS_good hV K' (by omega)
    have hgd1 := hgd.1
    refine r_aload0 X dX6_seek_11 ?_
    refine r_get X 10 dX6_seek_12 z_c80 in_X6 tw_568 (by decide) rfl rfl (by decide) ?_
    refine r_iload1 X dX6_seek_15 ?_
    refine r_iconst X dX6_seek_16 ?_
    refine r_isub X dX6_seek_17 ?_
    refine r_zald X dX6_seek_18 z_c89 (by decide) ⟨by omega, by omega⟩ ?_
    refine r_eqi hset ?_
    refine r_if_ne (tgt := 23) X dX6_seek_19 ⟨by omega, by omega⟩ (fun h19 => ?_) (fun h19 => ?_)
    · have hgS : ∃ gt : Nat → Int, (((K' + 1 : Nat) : Int) ≠ 0 → ∀ t, t < vN V → σ 88 (6 * (((K' + 1 : Nat) : Int) - 1) + vw V t) = gt t ∧ 0 ≤ gt t ∧ gt t < 7) ∧ vS V (K' + 1 : Nat) = vD V ((K' + 1 : Nat) : Int) gt := by
        first
        | exact ⟨fun _ => 0, fun q => absurd (show ((K' + 1 : Nat) : Int) = 0 by omega) q, by rw [show (K' + 1 : Nat) = 0 by omega]; rfl⟩
        | (have h1 := hprev.2.2 (by omega)
           have h2 := vn_in hV (k := (K' : Int)) (by omega)
           refine ⟨(vS V K').2.2.2, fun _ t ht => ?_, ?_⟩
           · rw [show ((K' + 1 : Nat) : Int) - 1 = (K' : Int) by omega]
             have q := (hgd.2 (by omega)).2.2 t ht
             exact ⟨h1.2.2 t ht, q.1, by omega⟩
           · show cIf ((vS V K').1 = 1) _ zAcc0 = _
             rw [cIf_t (by omega)]
             rfl)
      exact J23 hgS
    · have hvS0 : vS V (K' + 1) = zAcc0 := by
        show cIf ((vS V K').1 = 1) _ zAcc0 = zAcc0
        rw [cIf_f (by omega)]
      exact r_vretp X M dX6_seek_22 ⟨by rw [hvS0]; exact ⟨z_up_s, ⟨Or.inl rfl, fun h => by cases h⟩, fun h => by cases h⟩, ⟨fun c hc => z_up_c (by omega), fun x hx => by rw [z_up_j hx, z_up_c (by decide), z_up_c (by decide)]; exact ⟨rfl, rfl, rfl⟩, fun j _ => by rw [z_up_c (by decide)]⟩, hW.of (z_up_c (by decide))⟩

