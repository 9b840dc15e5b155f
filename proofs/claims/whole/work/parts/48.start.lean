set_option maxRecDepth 100000 in
set_option maxHeartbeats 4000000 in
/-- the law's loop -/
theorem law_loop {p : Program} {l : Launch} {e : Env} {s : State} {m : MethodId} {below : List Frame} {meth : Method} {c : Code} {D : va_G} {κ : Nat → ClassId} {a : Nat → Nat} {kc ks : Nat} {b L : Nat} {xs : Nat → Int32} (X : z_X p room_1 s m #[Value.ref b] c cL_law RL 4 D κ a (fun q : Nat => s.heap.size ≤ q) kc ks) (S : zScr s (fun q : Nat => s.heap.size ≤ q) b L xs) (hL : L ≤ 3584) (hr : meth.sig.returnType = ret) (hlocks : meth.locks = false) (hkc : kc ≤ 600000) (hks : ks ≤ 7302250) : ∀ (fu : Nat) (i : Int) (σ : zSt) (V : zV), ((L : Int) - i) < (fu : Int) → 0 ≤ i → i ≤ (L : Int) → zInv σ V → z_G p l e room_1 s m #[Value.ref b] below meth c 4 D κ a (fun q : Nat => s.heap.size ≤ q) kc ks (lw_Z below #[Value.ref b] s) σ [some (.ref b), some (.ref (a 0)), some (.ref (a 80)), some (.int (zI i))] 18 [] := by
  intro fu
  induction fu with
  | zero =>
    intro i σ V h0 h1 h2
    omega
  | succ fu ih =>
    intro i σ V h0 h1 h2 hI
    refine r_iload3 X dL_law_18 ?_
    refine r_aload0 X dL_law_19 ?_
    refine r_slen X S dL_law_20 ?_
    refine r_bipush X dL_law_21 (by decide +kernel) ?_
    refine r_isub X dL_law_23 ?_
    refine r_icmp_gt (tgt := 991) X dL_law_24 ⟨⟨by omega, by omega⟩, by omega, by omega⟩ (fun h24 => ?_) (fun h24 => ?_)
    · refine r_iconst X dL_law_991 ?_
      intro ls H locs hl hP hS
      refine va_forget (fun q hq => hS.2.2 q hq) ?_
      refine W.widen (k := 600000) (n := 7302250) hkc hks ?_
      exact lw_ret X.1.1 X.1.2.1 hr hlocks dL_law_992
    · refine r_aload0 X dL_law_27 ?_
      refine r_iload3 X dL_law_28 ?_
      refine r_sld X S dL_law_29 ⟨by omega, by omega⟩ (by omega) ?_
      refine r_bipush X dL_law_30 (by decide +kernel) ?_
      refine r_iandw X dL_law_32 ?_
      have back : ∀ (σ2 : zSt) (V2 : zV), zInv σ2 V2 → z_G p l e room_1 s m #[Value.ref b] below meth c 4 D κ a (fun q : Nat => s.heap.size ≤ q) kc ks (lw_Z below #[Value.ref b] s) σ2 [some (.ref b), some (.ref (a 0)), some (.ref (a 80)), some (.int (zI i))] 985 [] := by
        intro σ2 V2 h2
        refine r_iinc3 X dL_law_985 ?_
        refine r_goto (tgt := 18) X dL_law_988 (by decide) ?_
        exact ih (i + 7) σ2 V2 (by omega) (by omega) (by omega) h2
      have hi6 : 0 ≤ i ∧ i + 6 < (L : Int) := by omega
      obtain ⟨w, hw⟩ : ∃ w : Int, (zI (sX xs i) &&& zI 31).toInt = w := ⟨_, rfl⟩
      have hwr : z_in w := by rw [← hw]; exact zI_rng _
      rw [hw]
      rcases (show w = 0 ∨ w = 1 ∨ w = 2 ∨ w = 3 ∨ w = 4 ∨ w = 5 ∨ w = 6 ∨ w = 7 ∨ w = 8 ∨ w = 9 ∨ w = 10 ∨ w = 11 ∨ w = 12 ∨ w = 13 ∨ w = 14 ∨ w = 15 ∨ w = 16 ∨ w = 17 ∨ w = 18 ∨ w = 19 ∨ w = 20 ∨ w = 21 ∨ w = 22 ∨ (w < 0 ∨ 22 < w) by omega) with rfl | rfl | rfl | rfl | rfl | rfl | rfl | rfl | rfl | rfl | rfl | rfl | rfl | rfl | rfl | rfl | rfl | rfl | rfl | rfl | rfl | rfl | rfl | hw9
      · refine r_tabIn (tgt := 140) (off := 107) X dL_law_33 ⟨by omega, by omega⟩ ⟨by omega, by omega⟩ (by decide) (by decide) ?_
        exact law_marcher X S hL hi6 hI back
      · refine r_tabIn (tgt := 163) (off := 130) X dL_law_33 ⟨by omega, by omega⟩ ⟨by omega, by omega⟩ (by decide) (by decide) ?_
        exact law_ill X S hL hi6 hI back
      · refine r_tabIn (tgt := 212) (off := 179) X dL_law_33 ⟨by omega, by omega⟩ ⟨by omega, by omega⟩ (by decide) (by decide) ?_
        exact law_bound X S hL hi6 hI back
      · refine r_tabIn (tgt := 245) (off := 212) X dL_law_33 ⟨by omega, by omega⟩ ⟨by omega, by omega⟩ (by decide) (by decide) ?_
        exact law_picture X S hL hi6 hI back
      · refine r_tabIn (tgt := 268) (off := 235) X dL_law_33 ⟨by omega, by omega⟩ ⟨by omega, by omega⟩ (by decide) (by decide) ?_
        exact law_counts X S hL hi6 hI back
      · refine r_tabIn (tgt := 301) (off := 268) X dL_law_33 ⟨by omega, by omega⟩ ⟨by omega, by omega⟩ (by decide) (by decide) ?_
        exact law_line X S hL hi6 hI back
      · refine r_tabIn (tgt := 376) (off := 343) X dL_law_33 ⟨by omega, by omega⟩ ⟨by omega, by omega⟩ (by decide) (by decide) ?_
        exact law_block X S hL hi6 hI back
      · refine r_tabIn (tgt := 451) (off := 418) X dL_law_33 ⟨by omega, by omega⟩ ⟨by omega, by omega⟩ (by decide) (by decide) ?_
        exact law_corner X S hL hi6 hI back
      · refine r_tabIn (tgt := 514) (off := 481) X dL_law_33 ⟨by omega, by omega⟩ ⟨by omega, by omega⟩ (by decide) (by decide) ?_
        exact law_solo X S hL hi6 hI back
      · refine r_tabIn (tgt := 573) (off := 540) X dL_law_33 ⟨by omega, by omega⟩ ⟨by omega, by omega⟩ (by decide) (by decide) ?_
        exact law_scrub X S hL hi6 hI back
      · refine r_tabIn (tgt := 596) (off := 563) X dL_law_33 ⟨by omega, by omega⟩ ⟨by omega, by omega⟩ (by decide) (by decide) ?_
        exact law_rule X S hL hi6 hI back
      · refine r_tabIn (tgt := 629) (off := 596) X dL_law_33 ⟨by omega, by omega⟩ ⟨by omega, by omega⟩ (by decide) (by decide) ?_
        exact law_drums X S hL hi6 hI back
      · refine r_tabIn (tgt := 662) (off := 629) X dL_law_33 ⟨by omega, by omega⟩ ⟨by omega, by omega⟩ (by decide) (by decide) ?_
        exact law_dot X S hL hi6 hI back
      · refine r_tabIn (tgt := 705) (off := 672) X dL_law_33 ⟨by omega, by omega⟩ ⟨by omega, by omega⟩ (by decide) (by decide) ?_
        exact law_set X S hL hi6 hI back
      · refine r_tabIn (tgt := 738) (off := 705) X dL_law_33 ⟨by omega, by omega⟩ ⟨by omega, by omega⟩ (by decide) (by decide) ?_
        exact law_steps X S hL hi6 hI back
      · refine r_tabIn (tgt := 771) (off := 738) X dL_law_33 ⟨by omega, by omega⟩ ⟨by omega, by omega⟩ (by decide) (by decide) ?_
        exact law_way X S hL hi6 hI back
      · refine r_tabIn (tgt := 824) (off := 791) X dL_law_33 ⟨by omega, by omega⟩ ⟨by omega, by omega⟩ (by decide) (by decide) ?_
        exact law_closest X S hL hi6 hI back
      · refine r_tabIn (tgt := 867) (off := 834) X dL_law_33 ⟨by omega, by omega⟩ ⟨by omega, by omega⟩ (by decide) (by decide) ?_
        exact law_late X S hL hi6 hI back
      · refine r_tabIn (tgt := 900) (off := 867) X dL_law_33 ⟨by omega, by omega⟩ ⟨by omega, by omega⟩ (by decide) (by decide) ?_
        exact law_hole X S hL hi6 hI back
      · refine r_tabIn (tgt := 923) (off := 890) X dL_law_33 ⟨by omega, by omega⟩ ⟨by omega, by omega⟩ (by decide) (by decide) ?_
        exact law_ready X S hL hi6 hI back
      · refine r_tabIn (tgt := 936) (off := 903) X dL_law_33 ⟨by omega, by omega⟩ ⟨by omega, by omega⟩ (by decide) (by decide) ?_
        exact law_many X S hL hi6 hI back
      · refine r_tabIn (tgt := 959) (off := 926) X dL_law_33 ⟨by omega, by omega⟩ ⟨by omega, by omega⟩ (by decide) (by decide) ?_
        exact law_keep X S hL hi6 hI back
      · refine r_tabIn (tgt := 972) (off := 939) X dL_law_33 ⟨by omega, by omega⟩ ⟨by omega, by omega⟩ (by decide) (by decide) ?_
        exact law_back X S hL hi6 hI back
      · refine r_tabOut (tgt := 985) X dL_law_33 hwr (by omega) (by decide) ?_
        exact back σ V hI
set_option maxRecDepth 100000 in
set_option maxHeartbeats 4000000 in
/-- THE LAW, from its entry -/
theorem whole_start {p : Program} {e : Env} {s : State} {m : MethodId} {below : List Frame} {meth : Method} {c : Code} (l : Launch) {b L : Nat} {xs : Nat → Int32} (hL : L ≤ 3584) (C0 : lw_At p s m meth c b L xs) : W p l e room_1 s m #[Value.ref b] below meth c s.heap [] 0 0 (lw_Z below #[Value.ref b] s) (entryFrame m ([Value.ref b] : List Value).toArray 4) := by
  obtain ⟨hx, hb, hr, hml, hown, hts, hX, hbl, hlocks, hgv⟩ := id C0
  have htz : ∀ w ∈ z_TT, w.before #[Value.ref b] s = true := fun w hw => hts w (z_TT_in hw)
  obtain ⟨c0, i0, k0⟩ := u_known (C := RX0) (T := TX0) (N := 5) (n := 5) htz in_X0 (htz _ tw_66)
  obtain ⟨c1, i1, k1⟩ := u_known (C := RX1) (T := TX1) (N := 6) (n := 6) htz in_X1 (htz _ tw_207)
  obtain ⟨c2, i2, k2⟩ := u_known (C := RX2) (T := TX2) (N := 12) (n := 12) htz in_X2 (htz _ tw_161)
  obtain ⟨c3, i3, k3⟩ := u_known (C := RX3) (T := TX3) (N := 3) (n := 3) htz in_X3 (htz _ tw_142)
  obtain ⟨c4, i4, k4⟩ := u_known (C := RX4) (T := TX4) (N := 9) (n := 9) htz in_X4 (htz _ tw_59)
  obtain ⟨c5, i5, k5⟩ := u_known (C := RX5) (T := TX5) (N := 6) (n := 6) htz in_X5 (htz _ tw_51)
  obtain ⟨c6, i6, k6⟩ := u_known (C := RX6) (T := TX6) (N := 18) (n := 18) htz in_X6 (htz _ tw_553)
  obtain ⟨D, hKc⟩ : ∃ D : va_G, ∀ (k : Nat) (q : vw_C), vwCl[k]? = some q → u_Kn s q.1 q.2.1 q.2.2 (D.1 k) (D.2 k) := by
    refine ⟨(fun k => match k with | 0 => c0 | 1 => c1 | 2 => c2 | 3 => c3 | 4 => c4 | 5 => c5 | _ => c6, fun k => match k with | 0 => i0 | 1 => i1 | 2 => i2 | 3 => i3 | 4 => i4 | 5 => i5 | _ => i6), ?_⟩
    intro k q hq
    match k, hq with
    | 0, hq => cases hq; exact k0
    | 1, hq => cases hq; exact k1
    | 2, hq => cases hq; exact k2
    | 3, hq => cases hq; exact k3
    | 4, hq => cases hq; exact k4
    | 5, hq => cases hq; exact k5
    | 6, hq => cases hq; exact k6
    | k + 7, hq => simp [vwCl] at hq
  obtain ⟨a0, ka0, co0, f0, g0, h0⟩ := Cond.arrayClass_spec (htz _ tw_95)
  obtain ⟨a1, ka1, co1, f1, g1, h1⟩ := Cond.arrayClass_spec (htz _ tw_613)
  obtain ⟨a2, ka2, co2, f2, g2, h2⟩ := Cond.arrayClass_spec (htz _ tw_96)
  have wP : (Cond.arrayOver (.object "DotsOnGrass$Picture")).before #[Value.ref b] s = true := (hts _ (List.mem_of_getElem? (i := 65) (by decide +kernel)))
  have wA : (Cond.arrayOver (.array .int)).before #[Value.ref b] s = true := (hts _ (List.mem_of_getElem? (i := 213) (by decide +kernel)))
  obtain ⟨co3, a3, ka3, f3, -, g3, h3, n3⟩ := Cond.arrayOver_spec wP
  obtain ⟨co4, a4, ka4, f4, g4, h4, n4⟩ := z_AOA_spec wA
  obtain ⟨κ, e0, e1, e2, e3, e4⟩ : ∃ κ : Nat → ClassId, κ 0 = a0 ∧ κ 1 = a1 ∧ κ 2 = a2 ∧ κ 3 = a3 ∧ κ 4 = a4 := ⟨fun k => match k with | 0 => a0 | 1 => a1 | 2 => a2 | 3 => a3 | _ => a4, rfl, rfl, rfl, rfl, rfl⟩
  have hKK : z_KK D κ s := by
    refine ⟨⟨⟨hKc, fun k q hq => ?_⟩, va_any rfl (hts _ (List.mem_of_getElem? (i := 321) (by decide +kernel))), va_any rfl (hts _ (List.mem_of_getElem? (i := 434) (by decide +kernel))), va_any rfl (hts _ (List.mem_of_getElem? (i := 453) (by decide +kernel))), va_any rfl (hts _ (List.mem_of_getElem? (i := 547) (by decide +kernel))), va_any rfl (hts _ (List.mem_of_getElem? (i := 539) (by decide +kernel)))⟩, ⟨va_any rfl (hts _ (List.mem_of_getElem? (i := 67) (by decide +kernel))), va_any rfl (hts _ (List.mem_of_getElem? (i := 143) (by decide +kernel))), va_any rfl (hts _ (List.mem_of_getElem? (i := 162) (by decide +kernel)))⟩, va_AO.of wP, wA⟩
    match k, hq with
    | 0, hq =>
      cases hq
      rw [e0]
      exact ⟨fun N z => ⟨fun k h => (by cases h), ka0, g0, co0, h0⟩, f0⟩
    | 1, hq =>
      cases hq
      rw [e1]
      exact ⟨fun N z => ⟨fun k h => (by cases h), ka1, g1, co1, h1⟩, f1⟩
    | 2, hq =>
      cases hq
      rw [e2]
      exact ⟨fun N z => ⟨fun k h => (by cases h), ka2, g2, co2, h2⟩, f2⟩
    | 3, hq =>
      cases hq
      rw [e3]
      exact ⟨fun N z => ⟨fun k h => (by cases h), ka3, g3, co3, h3⟩, ka3, co3, g3, h3, f3, n3⟩
    | 4, hq =>
      cases hq
      rw [e4]
      exact ⟨fun N z => ⟨fun k h => (by cases h), ka4, g4, co4, h4⟩, n4⟩
    | k + 5, hq => simp [z_tys] at hq
  have Y : z_Y p s m #[Value.ref b] c cL_law RL 4 D κ (fun q : Nat => s.heap.size ≤ q) := ⟨⟨hx, hb, hml, hown, htz⟩, hKK, fun _ h => h⟩
  have S : zScr s (fun q : Nat => s.heap.size ≤ q) b L xs := ⟨hX, hbl, Nat.not_le.mpr hbl⟩
  have hl := lv_entry ([.ref b]) (n := 4) (Nat.le_of_ble_eq_true rfl)
  rw [lg_entry_eq]
  have hl : lv_has _ 4 (z_as 0 [some (.ref b), none, none, none]) := hl
  refine (?_ : z_H p l e room_1 s m #[Value.ref b] below meth c 4 D (fun q : Nat => s.heap.size ≤ q) 0 0 (lw_Z below #[Value.ref b] s) [] [some (.ref b), none, none, none] 0 []) _ _ _ hl (fun k q h => by simp at h) ⟨fun i j p q h => by simp at h, fun k q h => by simp at h⟩ va_S.rf
  refine h_new (ci := 5) (C := RX5) (T := TX5) (N := 6) Y [.null, .null, .int (zI 0), .null, .null, .null] dL_law_0 in_X5 tyX5 tyX5_ok tw_50 tw_51 tw_40 rfl (fun j hj => by rcases (show j = 0 ∨ j = 1 ∨ j = 2 ∨ j = 3 ∨ j = 4 ∨ j = 5 by omega) with rfl | rfl | rfl | rfl | rfl | rfl <;> rfl) (Nat.le_of_ble_eq_true rfl) (Nat.le_of_ble_eq_true rfl) (fun q0 => ?_)
  refine h_dup Y dL_law_3 rfl ?_
  refine h_init (n := 0) Y (k_X5_init l q0) dL_law_4 tw_54 tw_52 tw_53 tw_40 rfl rfl (Nat.le_of_ble_eq_true rfl) ⟨by decide, (Nat.le_of_ble_eq_true rfl)⟩ (by decide +kernel) rfl ⟨(Nat.le_of_ble_eq_true rfl), (Nat.le_of_ble_eq_true rfl)⟩ (fun w5 h5 => ?_)
  obtain ⟨s1, s2, sh, se, p1, p2, rfl⟩ := h5
  refine h_astore1 Y dL_law_7 (by decide) rfl ?_
  refine h_new (ci := 6) (C := RX6) (T := TX6) (N := 18) Y [.null, .null, .null, .null, .int (zI 0), .null, .null, .null, .int (zI 0), .null, .null, .null, .null, .null, .null, .null, .null, .int (zI 0)] dL_law_8 in_X6 tyX6 tyX6_ok tw_552 tw_553 tw_46 rfl (fun j hj => by rcases (show j = 0 ∨ j = 1 ∨ j = 2 ∨ j = 3 ∨ j = 4 ∨ j = 5 ∨ j = 6 ∨ j = 7 ∨ j = 8 ∨ j = 9 ∨ j = 10 ∨ j = 11 ∨ j = 12 ∨ j = 13 ∨ j = 14 ∨ j = 15 ∨ j = 16 ∨ j = 17 by omega) with rfl | rfl | rfl | rfl | rfl | rfl | rfl | rfl | rfl | rfl | rfl | rfl | rfl | rfl | rfl | rfl | rfl | rfl <;> rfl) (Nat.le_of_ble_eq_true rfl) (Nat.le_of_ble_eq_true rfl) (fun q8 => ?_)
  refine h_dup Y dL_law_11 rfl ?_
  refine h_init (n := 0) Y (k_X6_init l q8) dL_law_12 tw_556 tw_554 tw_555 tw_46 rfl rfl (Nat.le_of_ble_eq_true rfl) ⟨by decide, (Nat.le_of_ble_eq_true rfl)⟩ (by decide +kernel) rfl ⟨(Nat.le_of_ble_eq_true rfl), (Nat.le_of_ble_eq_true rfl)⟩ (fun w6 h6 => ?_)
  obtain ⟨mo, e6, rfl⟩ := h6
  subst e6
  refine h_astore2 Y dL_law_15 (by decide) rfl ?_
  intro ls H locs hl hP hD hS
  have hP1 : va_P D vwCl (z_w κ (k_a q0 s1 s2 sh p1 p2 se mo) k_s0) H := by rw [z_w1]; exact z_permP hP
  have hD1 : va_D (fun q : Nat => s.heap.size ≤ q) (z_w κ (k_a q0 s1 s2 sh p1 p2 se mo) k_s0) := by rw [z_w1]; exact z_permD hD
  have ea0 : k_a q0 s1 s2 sh p1 p2 se mo 0 = q0 := rfl
  have ea80 : k_a q0 s1 s2 sh p1 p2 se mo 80 = mo 0 := rfl
  generalize k_a q0 s1 s2 sh p1 p2 se mo = a at hP1 hD1 ea0 ea80
  subst ea0
  rw [← ea80] at hl
  have X : z_X p room_1 s m #[Value.ref b] c cL_law RL 4 D κ a (fun q : Nat => s.heap.size ≤ q) (0 + 1 + 79 + 1 + 15) (0 + 6 + 2289 + 18 + 390) := ⟨⟨hx, hb, hml, hown, htz⟩, hKK.1, z_aD_of hD1, Nat.le_of_ble_eq_true rfl, Nat.le_of_ble_eq_true rfl⟩
  refine (?_ : z_G p l e room_1 s m #[Value.ref b] below meth c 4 D κ a (fun q : Nat => s.heap.size ≤ q) _ _ (lw_Z below #[Value.ref b] s) k_s0 [some (.ref b), some (.ref (a 0)), some (.ref (a 80)), none] 16 []) ls H locs hl hP1 hS
  refine r_iconst X dL_law_16 ?_
  refine r_istore3 X dL_law_17 ?_
  exact law_loop X S hL hr hlocks (Nat.le_of_ble_eq_true rfl) (Nat.le_of_ble_eq_true rfl) (L + 1) 0 k_s0 k_V (by omega) (by omega) (by omega) k_inv
