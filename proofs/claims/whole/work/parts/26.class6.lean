def cSee (σ : zSt) (V : zV) : Prop := (σ 1 2 = V 0 ∧ σ 1 4 = V 1 ∧ σ 1 5 = V 2) ∧ (∀ m : Int, 0 ≤ m → m < 6 → σ (1 + 1) m = V (6 + 2 * m)) ∧ (∀ k : Nat, k < 5 → σ (1 + 4 + 4 * k) 3 = vn V (k : Int) ∧ ((k : Int) < V 1 → σ (1 + 4 + 4 * k) 4 = vc V (k : Int)) ∧ ∀ d : Int, 0 ≤ d → d < 7 → σ (1 + 4 + 4 * k + 1) d = vx V (k : Int) d ∧ σ (1 + 4 + 4 * k + 2) d = vy V (k : Int) d ∧ σ (1 + 4 + 4 * k + 3) d = V (28 + (3 * (7 * (k : Int) + d) + 2)))
theorem cSee.of {σ σ1 : zSt} {V : zV} (h : cSee σ V) (e : ∀ c : Nat, c < 25 → σ1 c = σ c) : cSee σ1 V := by
  obtain ⟨h1, h2, h3⟩ := h
  refine ⟨by rw [e 1 (by omega)]; exact h1, fun m m0 m1 => by rw [e (1 + 1) (by omega)]; exact h2 m m0 m1, fun k k1 => ?_⟩
  rw [e (1 + 4 + 4 * k) (by omega), e (1 + 4 + 4 * k + 1) (by omega), e (1 + 4 + 4 * k + 2) (by omega), e (1 + 4 + 4 * k + 3) (by omega)]
  exact h3 k k1
theorem unf_s (so : Nat → Prop) (tk : Nat → Int) (t d : Nat) : unf so tk t (d + 1) = unf so tk t d + cIf (so d ∧ ∀ i, i < t → tk i ≠ (d : Int)) 1 0 := rfl
theorem unf_le (so : Nat → Prop) (tk : Nat → Int) (t : Nat) : ∀ d : Nat, unf so tk t d ≤ d
  | 0 => Nat.le_refl _
  | d + 1 => by
    have ih := unf_le so tk t d
    rw [unf_s]
    by_cases e : so d ∧ ∀ i, i < t → tk i ≠ (d : Int)
    · rw [cIf_t e]; omega
    · rw [cIf_f e]; omega
theorem unf_c {so so' : Nat → Prop} {tk : Nat → Int} {t : Nat} : ∀ d : Nat, (∀ i, i < d → (so i ↔ so' i)) → unf so tk t d = unf so' tk t d
  | 0, _ => rfl
  | d + 1, h => by
    rw [unf_s, unf_s, unf_c d (fun i hi => h i (by omega))]
    congr 1
    by_cases e : so d ∧ ∀ i, i < t → tk i ≠ (d : Int)
    · rw [cIf_t e, cIf_t ⟨(h d (by omega)).mp e.1, e.2⟩]
    · rw [cIf_f e, cIf_f (fun q => e ⟨(h d (by omega)).mpr q.1, q.2⟩)]

set_option maxRecDepth 100000 in
set_option maxHeartbeats 4000000 in
theorem c_X0_solos (l : Launch) {D : va_G} {κ : Nat → ClassId} {a : Nat → Nat} {A : Nat → Prop} (hA : z_aD a A) (σ : zSt) (q : Nat) (hq : z_pic q) (hN : 0 ≤ σ q 3 ∧ σ q 3 ≤ 7) (hz : ∀ d : Int, 0 ≤ d → d < 7 → σ (q + 3) d = 0 ∨ σ (q + 3) d = 1) : z_Ti l D κ a A yX0_solos cX0_solos 3 (some .int) 0 [.ref (a q)] σ (((unf (fun d : Nat => σ (q + 3) (d : Int) = 1) (fun _ => 0) 0 (σ q 3).toNat : Nat) : Int)) (σ) := by
  refine z_Ti_of (cc := cX0_solos) (maxL := 3) (ret := (some .int)) (own := RX0) (lv0 := [some (.ref (a q)), none, none]) hA (by decide) rfl (Nat.le_of_ble_eq_true rfl) rfl ?_
  intro pg e s mm below meth c X M
  refine r_iconst X dX0_solos_0 ?_
  refine r_istore1 X dX0_solos_1 ?_
  refine r_iconst X dX0_solos_2 ?_
  refine r_istore2 X dX0_solos_3 ?_
  have L : ∀ (fu : Nat) (d n1 : Int), (σ q 3 - d) < (fu : Int) → 0 ≤ d → d ≤ σ q 3 → n1 = ((unf (fun d : Nat => σ (q + 3) (d : Int) = 1) (fun _ => 0) 0 d.toNat : Nat) : Int) → z_G pg l e (z_rm 0) s mm ([.ref (a q)] : List Value).toArray below meth c 3 D κ a A 0 0 (MQ below (z_Qi D κ a A (((unf (fun d : Nat => σ (q + 3) (d : Int) = 1) (fun _ => 0) 0 (σ q 3).toNat : Nat) : Int)) (σ)) ([.ref (a q)] : List Value).toArray s 0 0 A) σ [some (.ref (a q)), some (.int (zI n1)), some (.int (zI d))] 4 [] := by
    intro fu
    induction fu with
    | zero =>
      intro d n1 hn h0 h1 hn1
      omega
    | succ fu ihL =>
      intro d n1 hn h0 h1 hn1
      refine r_iload2 X dX0_solos_4 ?_
      refine r_aload0 X dX0_solos_5 ?_
      refine r_get X 3 dX0_solos_6 (z_cPic hq) in_X0 tw_78 (by have := z_pic.lt hq; omega) rfl rfl (by decide) ?_
      refine r_icmp_ge (tgt := 30) X dX0_solos_9 ⟨⟨by omega, by omega⟩, by omega, by omega⟩ (fun h9 => ?_) (fun h9 => ?_)
      · refine r_iload1 X dX0_solos_30 ?_
        exact r_iret X M dX0_solos_31 (by rw [hn1, show (σ q 3).toNat = d.toNat by omega]) rfl
      · have h01 := hz d (by omega) (by omega)
        refine r_aload0 X dX0_solos_12 ?_
        refine r_get X 2 dX0_solos_13 (z_cPic hq) in_X0 tw_75 (by have := z_pic.lt hq; omega) rfl rfl (by decide) ?_
        refine r_iload2 X dX0_solos_16 ?_
        refine r_zald X dX0_solos_17 (z_cPic3 hq) (by have := z_pic.lt hq; omega) ⟨by omega, by omega⟩ ?_
        refine r_if_eq (tgt := 24) X dX0_solos_18 ⟨by omega, by omega⟩ (fun h18 => ?_) (fun h18 => ?_)
        · refine r_iinc2 X dX0_solos_24 ?_
          refine r_goto (tgt := 4) X dX0_solos_27 (by decide) ?_
          first
          | exact ihL (d + 1) _ (by omega) (by omega) (by omega) (by rw [show (d + 1).toNat = d.toNat + 1 by omega, unf_s, cIf_f (fun q => by have q1 := q.1; rw [show ((d.toNat : Nat) : Int) = d by omega] at q1; omega)]; exact hn1)
          | exact ihL (d + 1) _ (by omega) (by omega) (by omega) (by rw [show (d + 1).toNat = d.toNat + 1 by omega, unf_s, cIf_t ⟨by show σ (q + 3) ((d.toNat : Nat) : Int) = 1; rw [show ((d.toNat : Nat) : Int) = d by omega]; omega, fun i hi => by omega⟩]; omega)
        · refine r_iinc1 X dX0_solos_21 ?_
          refine r_iinc2 X dX0_solos_24 ?_
          refine r_goto (tgt := 4) X dX0_solos_27 (by decide) ?_
          first
          | exact ihL (d + 1) _ (by omega) (by omega) (by omega) (by rw [show (d + 1).toNat = d.toNat + 1 by omega, unf_s, cIf_f (fun q => by have q1 := q.1; rw [show ((d.toNat : Nat) : Int) = d by omega] at q1; omega)]; exact hn1)
          | exact ihL (d + 1) _ (by omega) (by omega) (by omega) (by rw [show (d + 1).toNat = d.toNat + 1 by omega, unf_s, cIf_t ⟨by show σ (q + 3) ((d.toNat : Nat) : Int) = 1; rw [show ((d.toNat : Nat) : Int) = d by omega]; omega, fun i hi => by omega⟩]; omega)
  exact L 8 0 0 (by omega) (by omega) (by omega) rfl

set_option maxRecDepth 100000 in
set_option maxHeartbeats 4000000 in
theorem c_X2_begin (l : Launch) {D : va_G} {κ : Nat → ClassId} {a : Nat → Nat} {A : Nat → Prop} (hA : z_aD a A) (σ : zSt) (lvr : Int) (hl : -1 ≤ lvr ∧ lvr < 6) (V : zV) (hV : v_ok V) (hC : cSee σ V) (hill : ∀ m : Int, 0 ≤ m → m < V 0 → (V (6 + (2 * m + 1)) = 0 ↔ σ (1 + 2) m = 0 ∧ m ≠ lvr)) (hil01 : ∀ m : Int, 0 ≤ m → m < 6 → σ (1 + 2) m = 0 ∨ σ (1 + 2) m = 1) : z_Tq l D κ a A yX2_begin cX2_begin 4 none 0 [.ref (a 72), .ref (a 1), .int (zI lvr)] σ (fun σ' => (∀ c : Nat, c ≠ 72 → c ≠ 74 → σ' c = σ c) ∧ (σ' 72 0 = 0 ∧ σ' 72 1 = 0 ∧ σ' 72 2 = 0 ∧ σ' 72 5 = (vN V : Int)) ∧ ∀ t : Nat, t < vN V → σ' 74 (t : Int) = vw V t) := by
  refine z_Tq_of (cc := cX2_begin) (maxL := 4) (ret := none) (own := RX2) (lv0 := [some (.ref (a 72)), some (.ref (a 1)), some (.int (zI lvr)), none]) hA (by decide) rfl (Nat.le_of_ble_eq_true rfl) rfl ?_
  intro pg e s mm below meth c X M
  have hv0 := hV.1.1
  refine r_aload0 X dX2_begin_0 ?_
  refine r_iconst X dX2_begin_1 ?_
  refine r_put (ty := .boolean) X 0 0 dX2_begin_2 z_c72 in_X2 tw_166 tyX2 tyX2_ok nmX2 (by decide) rfl (by decide) rfl (by decide +kernel) (zI_narB (by omega)) (zI_fitB (by omega)) (fun _ _ => rfl) (Nat.le_of_ble_eq_true rfl) ?_
  refine r_aload0 X dX2_begin_5 ?_
  refine r_iconst X dX2_begin_6 ?_
  refine r_put (ty := .int) X 1 1 dX2_begin_7 z_c72 in_X2 tw_168 tyX2 tyX2_ok nmX2 (by decide) rfl (by decide) rfl (by decide +kernel) rfl rfl (fun _ _ => rfl) (Nat.le_of_ble_eq_true rfl) ?_
  refine r_aload0 X dX2_begin_10 ?_
  refine r_iconst X dX2_begin_11 ?_
  refine r_put (ty := .int) X 2 2 dX2_begin_12 z_c72 in_X2 tw_170 tyX2 tyX2_ok nmX2 (by decide) rfl (by decide) rfl (by decide +kernel) rfl rfl (fun _ _ => rfl) (Nat.le_of_ble_eq_true rfl) ?_
  refine r_aload0 X dX2_begin_15 ?_
  refine r_iconst X dX2_begin_16 ?_
  refine r_put (ty := .int) X 5 5 dX2_begin_17 z_c72 in_X2 tw_174 tyX2 tyX2_ok nmX2 (by decide) rfl (by decide) rfl (by decide +kernel) rfl rfl (fun _ _ => rfl) (Nat.le_of_ble_eq_true rfl) ?_
  refine r_iconst X dX2_begin_20 ?_
  refine r_istore3 X dX2_begin_21 ?_
  have L : ∀ (fu : Nat) (m : Int) (σ1 : zSt), (V 0 - m) < (fu : Int) → 0 ≤ m → m ≤ V 0 → (∀ c : Nat, c ≠ 72 → c ≠ 74 → σ1 c = σ c) → (σ1 72 0 = 0 ∧ σ1 72 1 = 0 ∧ σ1 72 2 = 0) → σ1 72 5 = ((vWl V m.toNat).length : Int) → (∀ t : Nat, t < (vWl V m.toNat).length → σ1 74 (t : Int) = (((vWl V m.toNat)[t]?).getD 0 : Nat)) → z_G pg l e (z_rm 0) s mm ([.ref (a 72), .ref (a 1), .int (zI lvr)] : List Value).toArray below meth c 4 D κ a A 0 0 (MQ below (z_Qq D κ a A (fun σ' => (∀ c : Nat, c ≠ 72 → c ≠ 74 → σ' c = σ c) ∧ (σ' 72 0 = 0 ∧ σ' 72 1 = 0 ∧ σ' 72 2 = 0 ∧ σ' 72 5 = (vN V : Int)) ∧ ∀ t : Nat, t < vN V → σ' 74 (t : Int) = vw V t)) ([.ref (a 72), .ref (a 1), .int (zI lvr)] : List Value).toArray s 0 0 A) σ1 [some (.ref (a 72)), some (.ref (a 1)), some (.int (zI lvr)), some (.int (zI m))] 22 [] := by
    intro fu
    induction fu with
    | zero =>
      intro m σ1 hn m0 m1 hF h72 hn0 hw
      omega
    | succ fu ihL =>
      intro m σ1 hn m0 m1 hF h72 hn0 hw
      have hlen := vWl_len V m.toNat
      refine r_iload3 X dX2_begin_22 ?_
      refine r_aload1 X dX2_begin_23 ?_
      refine r_get X 2 dX2_begin_24 (z_cShow (Or.inl rfl)) in_X4 tw_104 (by omega) rfl rfl (by decide) ?_
      refine r_eqi (y := V 0) (by rw [hF 1 (by decide) (by decide)]; exact hC.1.1) ?_
      refine r_icmp_ge (tgt := 70) X dX2_begin_27 ⟨⟨by omega, by omega⟩, by omega, by omega⟩ (fun h27 => ?_) (fun h27 => ?_)
      · have hmV : m = V 0 := by omega
        exact r_vretp X M dX2_begin_70 ⟨hF, ⟨h72.1, h72.2.1, h72.2.2, by rw [hn0, hmV]; rfl⟩, fun t ht => by rw [hmV] at hw; exact hw t ht⟩
      · have hil := hill m (by omega) (by omega)
        have hi01 := hil01 m (by omega) (by omega)
        have hsz : vWl V (m + 1).toNat = vWl V m.toNat ++ (if V (6 + (2 * m + 1)) = 0 then [m.toNat] else []) := by
          rw [show (m + 1).toNat = m.toNat + 1 by omega, vWl_s, show ((m.toNat : Nat) : Int) = m by omega]
        refine r_aload1 X dX2_begin_30 ?_
        refine r_get X 1 dX2_begin_31 (z_cShow (Or.inl rfl)) in_X4 tw_101 (by omega) rfl rfl (by decide) ?_
        refine r_iload3 X dX2_begin_34 ?_
        refine r_zald X dX2_begin_35 (z_cShow2 (Or.inl rfl)) (by omega) ⟨by omega, by omega⟩ ?_
        refine r_eqi (y := σ (1 + 2) m) (by rw [hF (1 + 2) (by decide) (by decide)]) ?_
        refine r_if_ne (tgt := 64) X dX2_begin_36 ⟨by omega, by omega⟩ (fun h36 => ?_) (fun h36 => ?_)
        · refine r_iinc3 X dX2_begin_64 ?_
          refine r_goto (tgt := 22) X dX2_begin_67 (by decide) ?_
          first
          | exact ihL (m + 1) _ (by omega) (by omega) (by omega) hF h72 (by rw [hsz, if_neg (fun q => by have q1 := (hil.mp q); omega), List.append_nil]; exact hn0) (by rw [hsz, if_neg (fun q => by have q1 := (hil.mp q); omega), List.append_nil]; exact hw)
          | exact ihL (m + 1) _ (by omega) (by omega) (by omega) (fun c a b => by rw [z_up_c a, z_up_c b]; exact hF c a b) (by rw [z_up_j (by omega), z_up_j (by omega), z_up_j (by omega), z_up_c (by decide)]; exact h72) (by rw [hsz, if_pos hp0, List.length_append, z_up_s]; simp) (fun t ht => by
              rw [hsz, if_pos hp0] at ht ⊢
              rw [z_up_c (by decide), z_up_a]
              by_cases e : t < (vWl V m.toNat).length
              · rw [if_neg (by omega), List.getElem?_append_left e]
                exact hw t e
              · rw [List.length_append] at ht
                simp at ht
                rw [if_pos ⟨rfl, by omega⟩, List.getElem?_append_right (by omega), show t - (vWl V m.toNat).length = 0 by omega]
                simp
                omega)
        · refine r_iload3 X dX2_begin_39 ?_
          refine r_iload2 X dX2_begin_40 ?_
          refine r_icmp_eq (tgt := 64) X dX2_begin_41 ⟨⟨by omega, by omega⟩, by omega, by omega⟩ (fun h41 => ?_) (fun h41 => ?_)
          · refine r_iinc3 X dX2_begin_64 ?_
            refine r_goto (tgt := 22) X dX2_begin_67 (by decide) ?_
            first
            | exact ihL (m + 1) _ (by omega) (by omega) (by omega) hF h72 (by rw [hsz, if_neg (fun q => by have q1 := (hil.mp q); omega), List.append_nil]; exact hn0) (by rw [hsz, if_neg (fun q => by have q1 := (hil.mp q); omega), List.append_nil]; exact hw)
            | exact ihL (m + 1) _ (by omega) (by omega) (by omega) (fun c a b => by rw [z_up_c a, z_up_c b]; exact hF c a b) (by rw [z_up_j (by omega), z_up_j (by omega), z_up_j (by omega), z_up_c (by decide)]; exact h72) (by rw [hsz, if_pos hp0, List.length_append, z_up_s]; simp) (fun t ht => by
                rw [hsz, if_pos hp0] at ht ⊢
                rw [z_up_c (by decide), z_up_a]
                by_cases e : t < (vWl V m.toNat).length
                · rw [if_neg (by omega), List.getElem?_append_left e]
                  exact hw t e
                · rw [List.length_append] at ht
                  simp at ht
                  rw [if_pos ⟨rfl, by omega⟩, List.getElem?_append_right (by omega), show t - (vWl V m.toNat).length = 0 by omega]
                  simp
                  omega)
          · have hp0 : V (6 + (2 * m + 1)) = 0 := hil.mpr ⟨by omega, by omega⟩
            refine r_aload0 X dX2_begin_44 ?_
            refine r_get X 4 dX2_begin_45 z_c72 in_X2 tw_173 (by decide) rfl rfl (by decide) ?_
            refine r_aload0 X dX2_begin_48 ?_
            refine r_get X 5 dX2_begin_49 z_c72 in_X2 tw_174 (by decide) rfl rfl (by decide) ?_
            refine r_eqi hn0 ?_
            refine r_iload3 X dX2_begin_52 ?_
            refine r_iast X dX2_begin_53 z_c74 (by decide) ⟨by omega, by omega⟩ ?_
            refine r_aload0 X dX2_begin_54 ?_
            refine r_dup X dX2_begin_55 rfl ?_
            refine r_get X 5 dX2_begin_56 z_c72 in_X2 tw_174 (by decide) rfl rfl (by decide) ?_
            refine r_eqi (y := ((vWl V m.toNat).length : Int)) (by rw [z_up_c (by decide)]; exact hn0) ?_
            refine r_iconst X dX2_begin_59 ?_
            refine r_iadd X dX2_begin_60 ?_
            refine r_put (ty := .int) X 5 5 dX2_begin_61 z_c72 in_X2 tw_174 tyX2 tyX2_ok nmX2 (by decide) rfl (by decide) rfl (by decide +kernel) rfl rfl (fun _ _ => rfl) (Nat.le_of_ble_eq_true rfl) ?_
            refine r_iinc3 X dX2_begin_64 ?_
            refine r_goto (tgt := 22) X dX2_begin_67 (by decide) ?_
            first
            | exact ihL (m + 1) _ (by omega) (by omega) (by omega) hF h72 (by rw [hsz, if_neg (fun q => by have q1 := (hil.mp q); omega), List.append_nil]; exact hn0) (by rw [hsz, if_neg (fun q => by have q1 := (hil.mp q); omega), List.append_nil]; exact hw)
            | exact ihL (m + 1) _ (by omega) (by omega) (by omega) (fun c a b => by rw [z_up_c a, z_up_c b]; exact hF c a b) (by rw [z_up_j (by omega), z_up_j (by omega), z_up_j (by omega), z_up_c (by decide)]; exact h72) (by rw [hsz, if_pos hp0, List.length_append, z_up_s]; simp) (fun t ht => by
                rw [hsz, if_pos hp0] at ht ⊢
                rw [z_up_c (by decide), z_up_a]
                by_cases e : t < (vWl V m.toNat).length
                · rw [if_neg (by omega), List.getElem?_append_left e]
                  exact hw t e
                · rw [List.length_append] at ht
                  simp at ht
                  rw [if_pos ⟨rfl, by omega⟩, List.getElem?_append_right (by omega), show t - (vWl V m.toNat).length = 0 by omega]
                  simp
                  omega)
  exact L 8 0 _ (by omega) (by omega) (by omega) (fun c a b => by rw [z_up_c a, z_up_c a, z_up_c a, z_up_c a]) (by simp [z_up_a]) (by simp [z_up_a, vWl]) (fun t ht => by simp [vWl] at ht)

set_option maxRecDepth 100000 in
set_option maxHeartbeats 4000000 in
theorem c_X2_startAnywhere (l : Launch) {D : va_G} {κ : Nat → ClassId} {a : Nat → Nat} {A : Nat → Prop} (hA : z_aD a A) (σ : zSt)  : z_Tq l D κ a A yX2_startAnywhere cX2_startAnywhere 1 none 1 [.ref (a 72)] σ (fun σ' => (∀ c : Nat, c ≠ 78 → c ≠ 79 → σ' c = σ c) ∧ (∀ j : Int, 0 ≤ j → j < 42 → σ' 78 j = 0) ∧ ∀ j : Int, 0 ≤ j → j < 1764 → σ' 79 j = 1) := by
  refine z_Tq_of (cc := cX2_startAnywhere) (maxL := 1) (ret := none) (own := RX2) (lv0 := [some (.ref (a 72))]) hA (by decide) rfl (Nat.le_of_ble_eq_true rfl) rfl ?_
  intro pg e s mm below meth c X M
  refine r_aload0 X dX2_startAnywhere_0 ?_
  refine r_get X 9 dX2_startAnywhere_1 z_c72 in_X2 tw_178 (by decide) rfl rfl (by decide) ?_
  refine r_iconst X dX2_startAnywhere_4 ?_
  refine r_callSq (n := 2) X (c_J7_fill_53178 l X.2.2.1 _ 78 42 _ z_c78 (by decide) (by decide)) dX2_startAnywhere_5 tw_413 tw_403 tw_48 tw_404 rfl (Nat.le_of_ble_eq_true rfl) ⟨by decide, by decide⟩ (by decide +kernel) rfl (fun σ1 h1 => ?_)
  refine r_aload0 X dX2_startAnywhere_8 ?_
  refine r_get X 10 dX2_startAnywhere_9 z_c72 in_X2 tw_179 (by decide) rfl rfl (by decide) ?_
  refine r_iconst X dX2_startAnywhere_12 ?_
  refine r_callSq (n := 2) X (c_J7_fill_53178 l X.2.2.1 _ 79 1764 _ z_c79 (by decide) (by decide)) dX2_startAnywhere_13 tw_413 tw_403 tw_48 tw_404 rfl (Nat.le_of_ble_eq_true rfl) ⟨by decide, by decide⟩ (by decide +kernel) rfl (fun σ2 h2 => ?_)
  exact r_vretp X M dX2_startAnywhere_16 ⟨fun c a b => (h2.1 c b).trans (h1.1 c a), fun j j0 j1 => by rw [h2.1 78 (by decide)]; exact h1.2 j j0 (by omega), fun j j0 j1 => h2.2 j j0 (by omega)⟩

theorem up_step {f : Int → Int} {σ1 : zSt} {c : Nat} {b d v : Int} (h : ∀ e : Int, 0 ≤ e → e < d → σ1 c (b + e) = f e) (hv : v = f d) : ∀ e : Int, 0 ≤ e → e < d + 1 → z_up σ1 c (b + d) v c (b + e) = f e := by
  intro e e0 e1
  by_cases q : e = d
  · rw [q, z_up_s]
    exact hv
  · rw [z_up_j (by omega)]
    exact h e e0 (by omega)

set_option maxRecDepth 100000 in
set_option maxHeartbeats 4000000 in
theorem c_X2_measureSteps (l : Launch) {D : va_G} {κ : Nat → ClassId} {a : Nat → Nat} {A : Nat → Prop} (hA : z_aD a A) (σ : zSt) (K : Nat) (hK : K < 5) (t : Nat) (ht : t < 6) (rc sx sy : Int) (hrc : 0 ≤ rc ∧ rc ≤ 1000) (hsx : σ 75 (t : Int) = sx) (hsy : σ 76 (t : Int) = sy) (hs : (0 ≤ sx ∧ sx ≤ 40) ∧ 0 ≤ sy ∧ sy ≤ 40) (hN : 0 ≤ σ (1 + 4 + 4 * K) 3 ∧ σ (1 + 4 + 4 * K) 3 ≤ 7) (hr : ∀ d : Int, 0 ≤ d → d < 7 → (0 ≤ σ ((1 + 4 + 4 * K) + 1) d ∧ σ ((1 + 4 + 4 * K) + 1) d ≤ 40) ∧ 0 ≤ σ ((1 + 4 + 4 * K) + 2) d ∧ σ ((1 + 4 + 4 * K) + 2) d ≤ 40) : z_Tq l D κ a A yX2_measureSteps cX2_measureSteps 8 none 1 [.ref (a 72), .ref (a (1 + 4 + 4 * K)), .int (zI (t : Int)), .int (zI rc)] σ (fun σ' => (∀ c : Nat, c ≠ 78 → σ' c = σ c) ∧ (∀ d : Int, 0 ≤ d → d < σ (1 + 4 + 4 * K) 3 → σ' 78 ((t : Int) * 7 + d) = if max (z_abs (σ ((1 + 4 + 4 * K) + 1) d - sx)) (z_abs (σ ((1 + 4 + 4 * K) + 2) d - sy)) ≤ rc then max (z_abs (σ ((1 + 4 + 4 * K) + 1) d - sx)) (z_abs (σ ((1 + 4 + 4 * K) + 2) d - sy)) else -1) ∧ ∀ j : Int, j < (t : Int) * 7 ∨ (t : Int) * 7 + 7 ≤ j → σ' 78 j = σ 78 j) := by
  refine z_Tq_of (cc := cX2_measureSteps) (maxL := 8) (ret := none) (own := RX2) (lv0 := [some (.ref (a 72)), some (.ref (a (1 + 4 + 4 * K))), some (.int (zI (t : Int))), some (.int (zI rc)), none, none, none, none]) hA (by decide) rfl (Nat.le_of_ble_eq_true rfl) rfl ?_
  intro pg e s mm below meth c X M
  have hq := z_pic.mk (b := 1) (k := K) (Or.inl rfl) hK
  refine r_iconst X dX2_measureSteps_0 ?_
  refine r_istore4 X dX2_measureSteps_1 ?_
  have L : ∀ (fu : Nat) (d : Int) (o5 o6 o7 : Option Value) (σ1 : zSt), (σ (1 + 4 + 4 * K) 3 - d) < (fu : Int) → 0 ≤ d → d ≤ σ (1 + 4 + 4 * K) 3 → (∀ c : Nat, c ≠ 78 → σ1 c = σ c) → (∀ e : Int, 0 ≤ e → e < d → σ1 78 ((t : Int) * 7 + e) = if max (z_abs (σ ((1 + 4 + 4 * K) + 1) e - sx)) (z_abs (σ ((1 + 4 + 4 * K) + 2) e - sy)) ≤ rc then max (z_abs (σ ((1 + 4 + 4 * K) + 1) e - sx)) (z_abs (σ ((1 + 4 + 4 * K) + 2) e - sy)) else -1) → (∀ j : Int, j < (t : Int) * 7 ∨ (t : Int) * 7 + 7 ≤ j → σ1 78 j = σ 78 j) → z_G pg l e (z_rm 1) s mm ([.ref (a 72), .ref (a (1 + 4 + 4 * K)), .int (zI (t : Int)), .int (zI rc)] : List Value).toArray below meth c 8 D κ a A 0 0 (MQ below (z_Qq D κ a A (fun σ' => (∀ c : Nat, c ≠ 78 → σ' c = σ c) ∧ (∀ d : Int, 0 ≤ d → d < σ (1 + 4 + 4 * K) 3 → σ' 78 ((t : Int) * 7 + d) = if max (z_abs (σ ((1 + 4 + 4 * K) + 1) d - sx)) (z_abs (σ ((1 + 4 + 4 * K) + 2) d - sy)) ≤ rc then max (z_abs (σ ((1 + 4 + 4 * K) + 1) d - sx)) (z_abs (σ ((1 + 4 + 4 * K) + 2) d - sy)) else -1) ∧ ∀ j : Int, j < (t : Int) * 7 ∨ (t : Int) * 7 + 7 ≤ j → σ' 78 j = σ 78 j)) ([.ref (a 72), .ref (a (1 + 4 + 4 * K)), .int (zI (t : Int)), .int (zI rc)] : List Value).toArray s 0 0 A) σ1 [some (.ref (a 72)), some (.ref (a (1 + 4 + 4 * K))), some (.int (zI (t : Int))), some (.int (zI rc)), some (.int (zI d)), o5, o6, o7] 3 [] := by
    intro fu
    induction fu with
    | zero =>
      intro d o5 o6 o7 σ1 hn h0 h1 hF hv hO
      omega
    | succ fu ihL =>
      intro d o5 o6 o7 σ1 hn h0 h1 hF hv hO
      refine r_iload4 X dX2_measureSteps_3 ?_
      refine r_aload1 X dX2_measureSteps_5 ?_
      refine r_get X 3 dX2_measureSteps_6 (z_cPic hq) in_X0 tw_79 (by have := z_pic.lt hq; omega) rfl rfl (by decide) ?_
      refine r_eqi (y := σ (1 + 4 + 4 * K) 3) (by rw [hF _ (by omega)]) ?_
      refine r_icmp_ge (tgt := 89) X dX2_measureSteps_9 ⟨⟨by omega, by omega⟩, by omega, by omega⟩ (fun h9 => ?_) (fun h9 => ?_)
      · exact r_vretp X M dX2_measureSteps_89 ⟨hF, fun d d0 d1 => hv d d0 (by omega), hO⟩
      · have hb := hr d (by omega) (by omega)
        have e1 := z_abs_in (x := σ ((1 + 4 + 4 * K) + 1) d - sx) (b := 40) (by omega)
        have e2 := z_abs_in (x := σ ((1 + 4 + 4 * K) + 2) d - sy) (b := 40) (by omega)
        refine r_aload1 X dX2_measureSteps_12 ?_
        refine r_get X 0 dX2_measureSteps_13 (z_cPic hq) in_X0 tw_72 (by have := z_pic.lt hq; omega) rfl rfl (by decide) ?_
        refine r_iload4 X dX2_measureSteps_16 ?_
        refine r_iald X dX2_measureSteps_18 (z_cPic1 hq) (by have := z_pic.lt hq; omega) ⟨by omega, by omega⟩ ?_
        refine r_eqi (y := σ ((1 + 4 + 4 * K) + 1) d) (by rw [hF _ (by omega)]) ?_
        refine r_aload0 X dX2_measureSteps_19 ?_
        refine r_get X 6 dX2_measureSteps_20 z_c72 in_X2 tw_175 (by decide) rfl rfl (by decide) ?_
        refine r_iload2 X dX2_measureSteps_23 ?_
        refine r_iald X dX2_measureSteps_24 z_c75 (by decide) ⟨by omega, by omega⟩ ?_
        refine r_eqi (y := sx) (by rw [hF 75 (by decide)]; exact hsx) ?_
        refine r_isub X dX2_measureSteps_25 ?_
        refine r_mabs X dX2_measureSteps_26 ⟨by omega, by omega⟩ tw_424 tw_425 tw_47 tw_426 ⟨by decide, Nat.le_of_ble_eq_true rfl⟩ ?_
        refine r_istore5 X dX2_measureSteps_29 ?_
        refine r_aload1 X dX2_measureSteps_31 ?_
        refine r_get X 1 dX2_measureSteps_32 (z_cPic hq) in_X0 tw_74 (by have := z_pic.lt hq; omega) rfl rfl (by decide) ?_
        refine r_iload4 X dX2_measureSteps_35 ?_
        refine r_iald X dX2_measureSteps_37 (z_cPic2 hq) (by have := z_pic.lt hq; omega) ⟨by omega, by omega⟩ ?_
        refine r_eqi (y := σ ((1 + 4 + 4 * K) + 2) d) (by rw [hF _ (by omega)]) ?_
        refine r_aload0 X dX2_measureSteps_38 ?_
        refine r_get X 7 dX2_measureSteps_39 z_c72 in_X2 tw_176 (by decide) rfl rfl (by decide) ?_
        refine r_iload2 X dX2_measureSteps_42 ?_
        refine r_iald X dX2_measureSteps_43 z_c76 (by decide) ⟨by omega, by omega⟩ ?_
        refine r_eqi (y := sy) (by rw [hF 76 (by decide)]; exact hsy) ?_
        refine r_isub X dX2_measureSteps_44 ?_
        refine r_mabs X dX2_measureSteps_45 ⟨by omega, by omega⟩ tw_424 tw_425 tw_47 tw_426 ⟨by decide, Nat.le_of_ble_eq_true rfl⟩ ?_
        refine r_istore6 X dX2_measureSteps_48 ?_
        refine r_iload5 X dX2_measureSteps_50 ?_
        refine r_iload6 X dX2_measureSteps_52 ?_
        refine r_mmax X dX2_measureSteps_54 ⟨⟨by omega, by omega⟩, by omega, by omega⟩ tw_427 tw_428 tw_47 tw_429 ⟨by decide, Nat.le_of_ble_eq_true rfl⟩ ?_
        refine r_istore7 X dX2_measureSteps_57 ?_
        refine r_aload0 X dX2_measureSteps_59 ?_
        refine r_get X 9 dX2_measureSteps_60 z_c72 in_X2 tw_178 (by decide) rfl rfl (by decide) ?_
        refine r_iload2 X dX2_measureSteps_63 ?_
        refine r_bipush X dX2_measureSteps_64 (by decide +kernel) ?_
        refine r_imul X dX2_measureSteps_66 ?_
        refine r_iload4 X dX2_measureSteps_67 ?_
        refine r_iadd X dX2_measureSteps_69 ?_
        refine r_iload7 X dX2_measureSteps_70 ?_
        refine r_iload3 X dX2_measureSteps_72 ?_
        refine r_icmp_gt (tgt := 81) X dX2_measureSteps_73 ⟨⟨by omega, by omega⟩, by omega, by omega⟩ (fun h73 => ?_) (fun h73 => ?_)
        · refine r_iconst X dX2_measureSteps_81 ?_
          refine r_iast X dX2_measureSteps_82 z_c78 (by decide) ⟨by omega, by omega⟩ ?_
          refine r_iinc4 X dX2_measureSteps_83 ?_
          refine r_goto (tgt := 3) X dX2_measureSteps_86 (by decide) ?_
          exact ihL (d + 1) _ _ _ _ (by omega) (by omega) (by omega) (fun c hc => by rw [z_up_c hc]; exact hF c hc) (up_step (f := fun e => if max (z_abs (σ ((1 + 4 + 4 * K) + 1) e - sx)) (z_abs (σ ((1 + 4 + 4 * K) + 2) e - sy)) ≤ rc then max (z_abs (σ ((1 + 4 + 4 * K) + 1) e - sx)) (z_abs (σ ((1 + 4 + 4 * K) + 2) e - sy)) else -1) hv (by first | exact (if_pos (by omega)).symm | exact (if_neg (by omega)).symm)) (fun j hj => by rw [z_up_j (by omega)]; exact hO j hj)
        · refine r_iload7 X dX2_measureSteps_76 ?_
          refine r_goto (tgt := 82) X dX2_measureSteps_78 (by decide) ?_
          refine r_iast X dX2_measureSteps_82 z_c78 (by decide) ⟨by omega, by omega⟩ ?_
          refine r_iinc4 X dX2_measureSteps_83 ?_
          refine r_goto (tgt := 3) X dX2_measureSteps_86 (by decide) ?_
          exact ihL (d + 1) _ _ _ _ (by omega) (by omega) (by omega) (fun c hc => by rw [z_up_c hc]; exact hF c hc) (up_step (f := fun e => if max (z_abs (σ ((1 + 4 + 4 * K) + 1) e - sx)) (z_abs (σ ((1 + 4 + 4 * K) + 2) e - sy)) ≤ rc then max (z_abs (σ ((1 + 4 + 4 * K) + 1) e - sx)) (z_abs (σ ((1 + 4 + 4 * K) + 2) e - sy)) else -1) hv (by first | exact (if_pos (by omega)).symm | exact (if_neg (by omega)).symm)) (fun j hj => by rw [z_up_j (by omega)]; exact hO j hj)
  exact L 8 0 none none none σ (by omega) (by omega) (by omega) (fun _ _ => rfl) (fun e _ _ => by omega) (fun _ _ => rfl)

def AccC (σ : zSt) (V : zV) (p : Int) (c : zAcc) : Prop := σ 72 0 = c.1 ∧ vgood V p c ∧ (c.1 = 1 → σ 72 1 = c.2.1 ∧ σ 72 2 = c.2.2.1 ∧ ∀ t : Nat, t < vN V → σ 73 (t : Int) = c.2.2.2 t)

set_option maxRecDepth 100000 in
set_option maxHeartbeats 4000000 in
theorem c_X2_isBetter (l : Launch) {D : va_G} {κ : Nat → ClassId} {a : Nat → Nat} {A : Nat → Prop} (hA : z_aD a A) (σ : zSt) (g s0 : Int) (c0 : zAcc) (V : zV) (p : Int) (hAc : AccC σ V p c0) (hg : z_in g) (hs : z_in s0) : z_Tp l D κ a A yX2_isBetter cX2_isBetter 3 (some .boolean) 0 [.ref (a 72), .int (zI g), .int (zI s0)] σ (fun z σ' => σ' = σ ∧ (z = 0 ∨ z = 1) ∧ (z = 1 ↔ better g s0 c0)) := by
  refine z_Tp_of (cc := cX2_isBetter) (maxL := 3) (ret := (some .boolean)) (own := RX2) (lv0 := [some (.ref (a 72)), some (.int (zI g)), some (.int (zI s0))]) hA (by decide) rfl (Nat.le_of_ble_eq_true rfl) rfl ?_
  intro pg e s mm below meth c X M
  have h01 := hAc.2.1.1
  refine r_aload0 X dX2_isBetter_0 ?_
  refine r_get X 0 dX2_isBetter_1 z_c72 in_X2 tw_166 (by decide) rfl rfl (by decide) ?_
  refine r_eqi hAc.1 ?_
  refine r_if_eq (tgt := 31) X dX2_isBetter_4 ⟨by omega, by omega⟩ (fun h4 => ?_) (fun h4 => ?_)
  · refine r_iconst X dX2_isBetter_31 ?_
    refine r_goto (tgt := 36) X dX2_isBetter_32 (by decide) ?_
    exact r_zretp X M dX2_isBetter_36 (by omega) ⟨rfl, by omega, by unfold better; omega⟩
  · have hg9 := hAc.2.1.2 (by omega)
    refine r_iload1 X dX2_isBetter_7 ?_
    refine r_aload0 X dX2_isBetter_8 ?_
    refine r_get X 1 dX2_isBetter_9 z_c72 in_X2 tw_168 (by decide) rfl rfl (by decide) ?_
    refine r_eqi (hAc.2.2 (by omega)).1 ?_
    refine r_icmp_lt (tgt := 31) X dX2_isBetter_12 ⟨⟨by omega, by omega⟩, by omega, by omega⟩ (fun h12 => ?_) (fun h12 => ?_)
    · refine r_iconst X dX2_isBetter_31 ?_
      refine r_goto (tgt := 36) X dX2_isBetter_32 (by decide) ?_
      exact r_zretp X M dX2_isBetter_36 (by omega) ⟨rfl, by omega, by unfold better; omega⟩
    · refine r_iload1 X dX2_isBetter_15 ?_
      refine r_aload0 X dX2_isBetter_16 ?_
      refine r_get X 1 dX2_isBetter_17 z_c72 in_X2 tw_168 (by decide) rfl rfl (by decide) ?_
      refine r_eqi (hAc.2.2 (by omega)).1 ?_
      refine r_icmp_ne (tgt := 35) X dX2_isBetter_20 ⟨⟨by omega, by omega⟩, by omega, by omega⟩ (fun h20 => ?_) (fun h20 => ?_)
      · refine r_iconst X dX2_isBetter_35 ?_
        exact r_zretp X M dX2_isBetter_36 (by omega) ⟨rfl, by omega, by unfold better; omega⟩
      · refine r_iload2 X dX2_isBetter_23 ?_
        refine r_aload0 X dX2_isBetter_24 ?_
        refine r_get X 2 dX2_isBetter_25 z_c72 in_X2 tw_170 (by decide) rfl rfl (by decide) ?_
        refine r_eqi (hAc.2.2 (by omega)).2.1 ?_
        refine r_icmp_ge (tgt := 35) X dX2_isBetter_28 ⟨⟨by omega, by omega⟩, by omega, by omega⟩ (fun h28 => ?_) (fun h28 => ?_)
        · refine r_iconst X dX2_isBetter_35 ?_
          exact r_zretp X M dX2_isBetter_36 (by omega) ⟨rfl, by omega, by unfold better; omega⟩
        · refine r_iconst X dX2_isBetter_31 ?_
          refine r_goto (tgt := 36) X dX2_isBetter_32 (by decide) ?_
          exact r_zretp X M dX2_isBetter_36 (by omega) ⟨rfl, by omega, by unfold better; omega⟩

set_option maxRecDepth 100000 in
set_option maxHeartbeats 4000000 in
theorem c_X2_remember (l : Launch) {D : va_G} {κ : Nat → ClassId} {a : Nat → Nat} {A : Nat → Prop} (hA : z_aD a A) (σ : zSt) (g s0 : Int) : z_Tv l D κ a A yX2_remember cX2_remember 3 none 1 [.ref (a 72), .int (zI g), .int (zI s0)] σ (z_uc (z_up (z_up (z_up σ 72 0 1) 72 1 g) 72 2 s0) 73 (z_cp ((z_up (z_up (z_up σ 72 0 1) 72 1 g) 72 2 s0) 77) ((z_up (z_up (z_up σ 72 0 1) 72 1 g) 72 2 s0) 73) 6)) := by
  refine z_Tv_of (cc := cX2_remember) (maxL := 3) (ret := none) (own := RX2) (lv0 := [some (.ref (a 72)), some (.int (zI g)), some (.int (zI s0))]) hA (by decide) rfl (Nat.le_of_ble_eq_true rfl) rfl ?_
  intro pg e s mm below meth c X M
  refine r_aload0 X dX2_remember_0 ?_
  refine r_iconst X dX2_remember_1 ?_
  refine r_put (ty := .boolean) X 0 0 dX2_remember_2 z_c72 in_X2 tw_166 tyX2 tyX2_ok nmX2 (by decide) rfl (by decide) rfl (by decide +kernel) (zI_narB (by omega)) (zI_fitB (by omega)) (fun _ _ => rfl) (Nat.le_of_ble_eq_true rfl) ?_
  refine r_aload0 X dX2_remember_5 ?_
  refine r_iload1 X dX2_remember_6 ?_
  refine r_put (ty := .int) X 1 1 dX2_remember_7 z_c72 in_X2 tw_168 tyX2 tyX2_ok nmX2 (by decide) rfl (by decide) rfl (by decide +kernel) rfl rfl (fun _ _ => rfl) (Nat.le_of_ble_eq_true rfl) ?_
  refine r_aload0 X dX2_remember_10 ?_
  refine r_iload2 X dX2_remember_11 ?_
  refine r_put (ty := .int) X 2 2 dX2_remember_12 z_c72 in_X2 tw_170 tyX2 tyX2_ok nmX2 (by decide) rfl (by decide) rfl (by decide +kernel) rfl rfl (fun _ _ => rfl) (Nat.le_of_ble_eq_true rfl) ?_
  refine r_aload0 X dX2_remember_15 ?_
  refine r_get X 8 dX2_remember_16 z_c72 in_X2 tw_177 (by decide) rfl rfl (by decide) ?_
  refine r_iconst X dX2_remember_19 ?_
  refine r_aload0 X dX2_remember_20 ?_
  refine r_get X 3 dX2_remember_21 z_c72 in_X2 tw_172 (by decide) rfl rfl (by decide) ?_
  refine r_iconst X dX2_remember_24 ?_
  refine r_bipush X dX2_remember_25 (by decide +kernel) ?_
  refine r_copyI X 6 dX2_remember_27 tw_442 tw_444 tw_443 tw_49 z_c77 z_c73 ⟨by decide, by decide⟩ ⟨by decide, by decide⟩ (by decide) ⟨by decide, Nat.le_of_ble_eq_true rfl⟩ ?_
  exact r_vret X M dX2_remember_30 rfl

