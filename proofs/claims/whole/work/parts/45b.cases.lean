set_option maxRecDepth 100000 in
set_option maxHeartbeats 4000000 in
theorem law_scrub {p : Program} {l : Launch} {e : Env} {s : State} {m : MethodId} {args : Array Value} {below : List Frame} {meth : Method} {c : Code} {D : va_G} {κ : Nat → ClassId} {a : Nat → Nat} {A : Nat → Prop} {kc ks : Nat} {Q : State → Prop} {b L : Nat} {xs : Nat → Int32} (X : z_X p room_1 s m args c cL_law RL 4 D κ a A kc ks) (S : zScr s A b L xs) (hL : L ≤ 3584) {i : Int} (hi : 0 ≤ i ∧ i + 6 < (L : Int)) {σ : zSt} {V : zV} (hI : zInv σ V) (back : ∀ (σ2 : zSt) (V2 : zV), zInv σ2 V2 → z_G p l e room_1 s m args below meth c 4 D κ a A kc ks Q σ2 [some (.ref b), some (.ref (a 0)), some (.ref (a 80)), some (.int (zI i))] 985 []) : z_G p l e room_1 s m args below meth c 4 D κ a A kc ks Q σ [some (.ref b), some (.ref (a 0)), some (.ref (a 80)), some (.int (zI i))] 573 [] := by
  obtain ⟨hV, hM, hS, hPl, h62, hW, hKp⟩ := id hI
  refine r_aload1 X dL_law_573 ?_
  refine r_aload0 X dL_law_574 ?_
  refine r_iload3 X dL_law_575 ?_
  refine r_iconst X dL_law_576 ?_
  refine r_iadd X dL_law_577 ?_
  refine r_sld X S dL_law_578 ⟨by omega, by omega⟩ (by omega) ?_
  refine r_callVp (n := 1) X (c_X5_scrub l X.2.2.1 _ _ (sX_in _ _) V hV hS hPl.1) dL_law_579 tw_360 tw_361 tw_362 tw_40 tw_363 z_c0 (by decide) rfl rfl (Nat.le_of_ble_eq_true rfl) ⟨by decide, by decide⟩ (by decide +kernel) rfl (fun z1 σ1 h1 => ?_)
  refine r_wr ?_
  refine r_aload2 X dL_law_582 ?_
  refine r_aload0 X dL_law_583 ?_
  refine r_iload3 X dL_law_584 ?_
  refine r_iconst X dL_law_585 ?_
  refine r_iadd X dL_law_586 ?_
  refine r_sld X S dL_law_587 ⟨by omega, by omega⟩ (by omega) ?_
  refine r_callVp (n := 1) X (c_X6_scrub l X.2.2.1 _ _ (sX_in _ _) V hV (mut_M hM h1.2)) dL_law_588 tw_688 tw_689 tw_690 tw_46 tw_691 z_c80 (by decide) rfl rfl (Nat.le_of_ble_eq_true rfl) ⟨by decide, by decide⟩ (by decide +kernel) rfl (fun z2 σ2 h2 => ?_)
  refine r_wr ?_
  refine r_icmp_eq (tgt := 985) X dL_law_591 ⟨wr_in _, wr_in _⟩ (fun h591 => ?_) (fun h591 => ?_)
  · obtain ⟨V2, hV2⟩ := inv_mut2 hI (h1.1.trans h2.1.symm) h1.2 h2.2 (fun q => mu_scrub hV (by rw [← h1.1]; exact q))
    exact back σ2 V2 hV2
  · exact absurd (congrArg wr (h1.1.trans h2.1.symm)) h591
set_option maxRecDepth 100000 in
set_option maxHeartbeats 4000000 in
theorem law_rule {p : Program} {l : Launch} {e : Env} {s : State} {m : MethodId} {args : Array Value} {below : List Frame} {meth : Method} {c : Code} {D : va_G} {κ : Nat → ClassId} {a : Nat → Nat} {A : Nat → Prop} {kc ks : Nat} {Q : State → Prop} {b L : Nat} {xs : Nat → Int32} (X : z_X p room_1 s m args c cL_law RL 4 D κ a A kc ks) (S : zScr s A b L xs) (hL : L ≤ 3584) {i : Int} (hi : 0 ≤ i ∧ i + 6 < (L : Int)) {σ : zSt} {V : zV} (hI : zInv σ V) (back : ∀ (σ2 : zSt) (V2 : zV), zInv σ2 V2 → z_G p l e room_1 s m args below meth c 4 D κ a A kc ks Q σ2 [some (.ref b), some (.ref (a 0)), some (.ref (a 80)), some (.int (zI i))] 985 []) : z_G p l e room_1 s m args below meth c 4 D κ a A kc ks Q σ [some (.ref b), some (.ref (a 0)), some (.ref (a 80)), some (.int (zI i))] 596 [] := by
  obtain ⟨hV, hM, hS, hPl, h62, hW, hKp⟩ := id hI
  refine r_aload1 X dL_law_596 ?_
  refine r_aload0 X dL_law_597 ?_
  refine r_iload3 X dL_law_598 ?_
  refine r_iconst X dL_law_599 ?_
  refine r_iadd X dL_law_600 ?_
  refine r_sld X S dL_law_601 ⟨by omega, by omega⟩ (by omega) ?_
  refine r_aload0 X dL_law_602 ?_
  refine r_iload3 X dL_law_603 ?_
  refine r_iconst X dL_law_604 ?_
  refine r_iadd X dL_law_605 ?_
  refine r_sld X S dL_law_606 ⟨by omega, by omega⟩ (by omega) ?_
  refine r_callVp (n := 2) X (c_X5_rule l X.2.2.1 _ _ _ (sX_in _ _) (sX_in _ _) V hV hS hPl.1) dL_law_607 tw_364 tw_365 tw_366 tw_40 tw_367 z_c0 (by decide) rfl rfl (Nat.le_of_ble_eq_true rfl) ⟨by decide, by decide⟩ (by decide +kernel) rfl (fun z1 σ1 h1 => ?_)
  refine r_wr ?_
  refine r_aload2 X dL_law_610 ?_
  refine r_aload0 X dL_law_611 ?_
  refine r_iload3 X dL_law_612 ?_
  refine r_iconst X dL_law_613 ?_
  refine r_iadd X dL_law_614 ?_
  refine r_sld X S dL_law_615 ⟨by omega, by omega⟩ (by omega) ?_
  refine r_aload0 X dL_law_616 ?_
  refine r_iload3 X dL_law_617 ?_
  refine r_iconst X dL_law_618 ?_
  refine r_iadd X dL_law_619 ?_
  refine r_sld X S dL_law_620 ⟨by omega, by omega⟩ (by omega) ?_
  refine r_callVp (n := 2) X (c_X6_rule l X.2.2.1 _ _ _ (sX_in _ _) (sX_in _ _) V hV (mut_M hM h1.2)) dL_law_621 tw_692 tw_693 tw_694 tw_46 tw_695 z_c80 (by decide) rfl rfl (Nat.le_of_ble_eq_true rfl) ⟨by decide, by decide⟩ (by decide +kernel) rfl (fun z2 σ2 h2 => ?_)
  refine r_wr ?_
  refine r_icmp_eq (tgt := 985) X dL_law_624 ⟨wr_in _, wr_in _⟩ (fun h624 => ?_) (fun h624 => ?_)
  · obtain ⟨V2, hV2⟩ := inv_mut2 hI (h1.1.trans h2.1.symm) h1.2 h2.2 (fun q => mu_rule hV (by rw [← h1.1]; exact q))
    exact back σ2 V2 hV2
  · exact absurd (congrArg wr (h1.1.trans h2.1.symm)) h624
set_option maxRecDepth 100000 in
set_option maxHeartbeats 4000000 in
theorem law_drums {p : Program} {l : Launch} {e : Env} {s : State} {m : MethodId} {args : Array Value} {below : List Frame} {meth : Method} {c : Code} {D : va_G} {κ : Nat → ClassId} {a : Nat → Nat} {A : Nat → Prop} {kc ks : Nat} {Q : State → Prop} {b L : Nat} {xs : Nat → Int32} (X : z_X p room_1 s m args c cL_law RL 4 D κ a A kc ks) (S : zScr s A b L xs) (hL : L ≤ 3584) {i : Int} (hi : 0 ≤ i ∧ i + 6 < (L : Int)) {σ : zSt} {V : zV} (hI : zInv σ V) (back : ∀ (σ2 : zSt) (V2 : zV), zInv σ2 V2 → z_G p l e room_1 s m args below meth c 4 D κ a A kc ks Q σ2 [some (.ref b), some (.ref (a 0)), some (.ref (a 80)), some (.int (zI i))] 985 []) : z_G p l e room_1 s m args below meth c 4 D κ a A kc ks Q σ [some (.ref b), some (.ref (a 0)), some (.ref (a 80)), some (.int (zI i))] 629 [] := by
  obtain ⟨hV, hM, hS, hPl, h62, hW, hKp⟩ := id hI
  refine r_aload1 X dL_law_629 ?_
  refine r_aload0 X dL_law_630 ?_
  refine r_iload3 X dL_law_631 ?_
  refine r_iconst X dL_law_632 ?_
  refine r_iadd X dL_law_633 ?_
  refine r_sld X S dL_law_634 ⟨by omega, by omega⟩ (by omega) ?_
  refine r_aload0 X dL_law_635 ?_
  refine r_iload3 X dL_law_636 ?_
  refine r_iconst X dL_law_637 ?_
  refine r_iadd X dL_law_638 ?_
  refine r_sld X S dL_law_639 ⟨by omega, by omega⟩ (by omega) ?_
  refine r_callVp (n := 2) X (c_X5_drums l X.2.2.1 _ _ _ (sX_in _ _) (sX_in _ _) V hV hS hPl.1) dL_law_640 tw_368 tw_369 tw_370 tw_40 tw_371 z_c0 (by decide) rfl rfl (Nat.le_of_ble_eq_true rfl) ⟨by decide, by decide⟩ (by decide +kernel) rfl (fun z1 σ1 h1 => ?_)
  refine r_wr ?_
  refine r_aload2 X dL_law_643 ?_
  refine r_aload0 X dL_law_644 ?_
  refine r_iload3 X dL_law_645 ?_
  refine r_iconst X dL_law_646 ?_
  refine r_iadd X dL_law_647 ?_
  refine r_sld X S dL_law_648 ⟨by omega, by omega⟩ (by omega) ?_
  refine r_aload0 X dL_law_649 ?_
  refine r_iload3 X dL_law_650 ?_
  refine r_iconst X dL_law_651 ?_
  refine r_iadd X dL_law_652 ?_
  refine r_sld X S dL_law_653 ⟨by omega, by omega⟩ (by omega) ?_
  refine r_callVp (n := 2) X (c_X6_drums l X.2.2.1 _ _ _ (sX_in _ _) (sX_in _ _) V hV (mut_M hM h1.2)) dL_law_654 tw_698 tw_699 tw_700 tw_46 tw_701 z_c80 (by decide) rfl rfl (Nat.le_of_ble_eq_true rfl) ⟨by decide, by decide⟩ (by decide +kernel) rfl (fun z2 σ2 h2 => ?_)
  refine r_wr ?_
  refine r_icmp_eq (tgt := 985) X dL_law_657 ⟨wr_in _, wr_in _⟩ (fun h657 => ?_) (fun h657 => ?_)
  · obtain ⟨V2, hV2⟩ := inv_mut2 hI (h1.1.trans h2.1.symm) h1.2 h2.2 (fun q => mu_drums hV (by rw [← h1.1]; exact q))
    exact back σ2 V2 hV2
  · exact absurd (congrArg wr (h1.1.trans h2.1.symm)) h657
set_option maxRecDepth 100000 in
set_option maxHeartbeats 4000000 in
theorem law_dot {p : Program} {l : Launch} {e : Env} {s : State} {m : MethodId} {args : Array Value} {below : List Frame} {meth : Method} {c : Code} {D : va_G} {κ : Nat → ClassId} {a : Nat → Nat} {A : Nat → Prop} {kc ks : Nat} {Q : State → Prop} {b L : Nat} {xs : Nat → Int32} (X : z_X p room_1 s m args c cL_law RL 4 D κ a A kc ks) (S : zScr s A b L xs) (hL : L ≤ 3584) {i : Int} (hi : 0 ≤ i ∧ i + 6 < (L : Int)) {σ : zSt} {V : zV} (hI : zInv σ V) (back : ∀ (σ2 : zSt) (V2 : zV), zInv σ2 V2 → z_G p l e room_1 s m args below meth c 4 D κ a A kc ks Q σ2 [some (.ref b), some (.ref (a 0)), some (.ref (a 80)), some (.int (zI i))] 985 []) : z_G p l e room_1 s m args below meth c 4 D κ a A kc ks Q σ [some (.ref b), some (.ref (a 0)), some (.ref (a 80)), some (.int (zI i))] 662 [] := by
  obtain ⟨hV, hM, hS, hPl, h62, hW, hKp⟩ := id hI
  refine r_aload1 X dL_law_662 ?_
  refine r_aload0 X dL_law_663 ?_
  refine r_iload3 X dL_law_664 ?_
  refine r_iconst X dL_law_665 ?_
  refine r_iadd X dL_law_666 ?_
  refine r_sld X S dL_law_667 ⟨by omega, by omega⟩ (by omega) ?_
  refine r_aload0 X dL_law_668 ?_
  refine r_iload3 X dL_law_669 ?_
  refine r_iconst X dL_law_670 ?_
  refine r_iadd X dL_law_671 ?_
  refine r_sld X S dL_law_672 ⟨by omega, by omega⟩ (by omega) ?_
  refine r_aload0 X dL_law_673 ?_
  refine r_iload3 X dL_law_674 ?_
  refine r_iconst X dL_law_675 ?_
  refine r_iadd X dL_law_676 ?_
  refine r_sld X S dL_law_677 ⟨by omega, by omega⟩ (by omega) ?_
  refine r_callVp (n := 3) X (c_X5_dot l X.2.2.1 _ _ _ _ (sX_in _ _) (sX_in _ _) (sX_in _ _) V hV hS hPl.1) dL_law_678 tw_373 tw_374 tw_375 tw_40 tw_376 z_c0 (by decide) rfl rfl (Nat.le_of_ble_eq_true rfl) ⟨by decide, by decide⟩ (by decide +kernel) rfl (fun z1 σ1 h1 => ?_)
  refine r_wr ?_
  refine r_aload2 X dL_law_681 ?_
  refine r_aload0 X dL_law_682 ?_
  refine r_iload3 X dL_law_683 ?_
  refine r_iconst X dL_law_684 ?_
  refine r_iadd X dL_law_685 ?_
  refine r_sld X S dL_law_686 ⟨by omega, by omega⟩ (by omega) ?_
  refine r_aload0 X dL_law_687 ?_
  refine r_iload3 X dL_law_688 ?_
  refine r_iconst X dL_law_689 ?_
  refine r_iadd X dL_law_690 ?_
  refine r_sld X S dL_law_691 ⟨by omega, by omega⟩ (by omega) ?_
  refine r_aload0 X dL_law_692 ?_
  refine r_iload3 X dL_law_693 ?_
  refine r_iconst X dL_law_694 ?_
  refine r_iadd X dL_law_695 ?_
  refine r_sld X S dL_law_696 ⟨by omega, by omega⟩ (by omega) ?_
  refine r_callVp (n := 3) X (c_X6_dot l X.2.2.1 _ _ _ _ (sX_in _ _) (sX_in _ _) (sX_in _ _) V hV (mut_M hM h1.2)) dL_law_697 tw_702 tw_703 tw_704 tw_46 tw_705 z_c80 (by decide) rfl rfl (Nat.le_of_ble_eq_true rfl) ⟨by decide, by decide⟩ (by decide +kernel) rfl (fun z2 σ2 h2 => ?_)
  refine r_wr ?_
  refine r_icmp_eq (tgt := 985) X dL_law_700 ⟨wr_in _, wr_in _⟩ (fun h700 => ?_) (fun h700 => ?_)
  · exact back σ2 V (inv_mut hI (V' := V) (by have q := h1.2; unfold z_if at q; rw [ite_self] at q; exact q) (by have q := h2.2; unfold z_if at q; rw [ite_self] at q; exact q) hV (fun K _ k => ⟨k, vSame.refl V K⟩))
  · exact absurd (congrArg wr (h1.1.trans h2.1.symm)) h700
set_option maxRecDepth 100000 in
set_option maxHeartbeats 4000000 in
theorem law_set {p : Program} {l : Launch} {e : Env} {s : State} {m : MethodId} {args : Array Value} {below : List Frame} {meth : Method} {c : Code} {D : va_G} {κ : Nat → ClassId} {a : Nat → Nat} {A : Nat → Prop} {kc ks : Nat} {Q : State → Prop} {b L : Nat} {xs : Nat → Int32} (X : z_X p room_1 s m args c cL_law RL 4 D κ a A kc ks) (S : zScr s A b L xs) (hL : L ≤ 3584) {i : Int} (hi : 0 ≤ i ∧ i + 6 < (L : Int)) {σ : zSt} {V : zV} (hI : zInv σ V) (back : ∀ (σ2 : zSt) (V2 : zV), zInv σ2 V2 → z_G p l e room_1 s m args below meth c 4 D κ a A kc ks Q σ2 [some (.ref b), some (.ref (a 0)), some (.ref (a 80)), some (.int (zI i))] 985 []) : z_G p l e room_1 s m args below meth c 4 D κ a A kc ks Q σ [some (.ref b), some (.ref (a 0)), some (.ref (a 80)), some (.int (zI i))] 705 [] := by
  obtain ⟨hV, hM, hS, hPl, h62, hW, hKp⟩ := id hI
  refine r_aload1 X dL_law_705 ?_
  refine r_aload0 X dL_law_706 ?_
  refine r_iload3 X dL_law_707 ?_
  refine r_iconst X dL_law_708 ?_
  refine r_iadd X dL_law_709 ?_
  refine r_sld X S dL_law_710 ⟨by omega, by omega⟩ (by omega) ?_
  refine r_aload0 X dL_law_711 ?_
  refine r_iload3 X dL_law_712 ?_
  refine r_iconst X dL_law_713 ?_
  refine r_iadd X dL_law_714 ?_
  refine r_sld X S dL_law_715 ⟨by omega, by omega⟩ (by omega) ?_
  refine r_callVp (n := 2) X (c_X5_set l X.2.2.1 _ _ _ (sX_in _ _) (sX_in _ _) V hV hS hPl h62) dL_law_716 tw_386 tw_387 tw_388 tw_40 tw_389 z_c0 (by decide) rfl rfl (Nat.le_of_ble_eq_true rfl) ⟨by decide, by decide⟩ (by decide +kernel) rfl (fun z1 σ1 h1 => ?_)
  refine r_wr ?_
  refine r_aload2 X dL_law_719 ?_
  refine r_aload0 X dL_law_720 ?_
  refine r_iload3 X dL_law_721 ?_
  refine r_iconst X dL_law_722 ?_
  refine r_iadd X dL_law_723 ?_
  refine r_sld X S dL_law_724 ⟨by omega, by omega⟩ (by omega) ?_
  refine r_aload0 X dL_law_725 ?_
  refine r_iload3 X dL_law_726 ?_
  refine r_iconst X dL_law_727 ?_
  refine r_iadd X dL_law_728 ?_
  refine r_sld X S dL_law_729 ⟨by omega, by omega⟩ (by omega) ?_
  refine r_callVp (n := 2) X (c_X6_set l X.2.2.1 _ _ _ (sX_in _ _) (sX_in _ _) V hV (qry_M hM h1.2) (qry_W hW h1.2)) dL_law_730 tw_707 tw_708 tw_709 tw_46 tw_710 z_c80 (by decide) rfl rfl (Nat.le_of_ble_eq_true rfl) ⟨by decide, by decide⟩ (by decide +kernel) rfl (fun z2 σ2 h2 => ?_)
  refine r_wr ?_
  refine r_icmp_eq (tgt := 985) X dL_law_733 ⟨wr_in _, wr_in _⟩ (fun h733 => ?_) (fun h733 => ?_)
  · exact back σ2 V (inv_qry hI h1.2 h2.2)
  · exact absurd (congrArg wr (h1.1.trans h2.1.symm)) h733
set_option maxRecDepth 100000 in
set_option maxHeartbeats 4000000 in
theorem law_steps {p : Program} {l : Launch} {e : Env} {s : State} {m : MethodId} {args : Array Value} {below : List Frame} {meth : Method} {c : Code} {D : va_G} {κ : Nat → ClassId} {a : Nat → Nat} {A : Nat → Prop} {kc ks : Nat} {Q : State → Prop} {b L : Nat} {xs : Nat → Int32} (X : z_X p room_1 s m args c cL_law RL 4 D κ a A kc ks) (S : zScr s A b L xs) (hL : L ≤ 3584) {i : Int} (hi : 0 ≤ i ∧ i + 6 < (L : Int)) {σ : zSt} {V : zV} (hI : zInv σ V) (back : ∀ (σ2 : zSt) (V2 : zV), zInv σ2 V2 → z_G p l e room_1 s m args below meth c 4 D κ a A kc ks Q σ2 [some (.ref b), some (.ref (a 0)), some (.ref (a 80)), some (.int (zI i))] 985 []) : z_G p l e room_1 s m args below meth c 4 D κ a A kc ks Q σ [some (.ref b), some (.ref (a 0)), some (.ref (a 80)), some (.int (zI i))] 738 [] := by
  obtain ⟨hV, hM, hS, hPl, h62, hW, hKp⟩ := id hI
  refine r_aload1 X dL_law_738 ?_
  refine r_aload0 X dL_law_739 ?_
  refine r_iload3 X dL_law_740 ?_
  refine r_iconst X dL_law_741 ?_
  refine r_iadd X dL_law_742 ?_
  refine r_sld X S dL_law_743 ⟨by omega, by omega⟩ (by omega) ?_
  refine r_aload0 X dL_law_744 ?_
  refine r_iload3 X dL_law_745 ?_
  refine r_iconst X dL_law_746 ?_
  refine r_iadd X dL_law_747 ?_
  refine r_sld X S dL_law_748 ⟨by omega, by omega⟩ (by omega) ?_
  refine r_callVp (n := 2) X (c_X5_steps l X.2.2.1 _ _ _ (sX_in _ _) (sX_in _ _) V hV hS hPl h62) dL_law_749 tw_469 tw_470 tw_471 tw_40 tw_472 z_c0 (by decide) rfl rfl (Nat.le_of_ble_eq_true rfl) ⟨by decide, by decide⟩ (by decide +kernel) rfl (fun z1 σ1 h1 => ?_)
  refine r_wr ?_
  refine r_aload2 X dL_law_752 ?_
  refine r_aload0 X dL_law_753 ?_
  refine r_iload3 X dL_law_754 ?_
  refine r_iconst X dL_law_755 ?_
  refine r_iadd X dL_law_756 ?_
  refine r_sld X S dL_law_757 ⟨by omega, by omega⟩ (by omega) ?_
  refine r_aload0 X dL_law_758 ?_
  refine r_iload3 X dL_law_759 ?_
  refine r_iconst X dL_law_760 ?_
  refine r_iadd X dL_law_761 ?_
  refine r_sld X S dL_law_762 ⟨by omega, by omega⟩ (by omega) ?_
  refine r_callVp (n := 2) X (c_X6_steps l X.2.2.1 _ _ _ (sX_in _ _) (sX_in _ _) V hV (qry_M hM h1.2) (qry_W hW h1.2)) dL_law_763 tw_758 tw_759 tw_760 tw_46 tw_761 z_c80 (by decide) rfl rfl (Nat.le_of_ble_eq_true rfl) ⟨by decide, by decide⟩ (by decide +kernel) rfl (fun z2 σ2 h2 => ?_)
  refine r_wr ?_
  refine r_icmp_eq (tgt := 985) X dL_law_766 ⟨wr_in _, wr_in _⟩ (fun h766 => ?_) (fun h766 => ?_)
  · exact back σ2 V (inv_qry hI h1.2 h2.2)
  · exact absurd (congrArg wr (h1.1.trans h2.1.symm)) h766
set_option maxRecDepth 100000 in
set_option maxHeartbeats 4000000 in
theorem law_way {p : Program} {l : Launch} {e : Env} {s : State} {m : MethodId} {args : Array Value} {below : List Frame} {meth : Method} {c : Code} {D : va_G} {κ : Nat → ClassId} {a : Nat → Nat} {A : Nat → Prop} {kc ks : Nat} {Q : State → Prop} {b L : Nat} {xs : Nat → Int32} (X : z_X p room_1 s m args c cL_law RL 4 D κ a A kc ks) (S : zScr s A b L xs) (hL : L ≤ 3584) {i : Int} (hi : 0 ≤ i ∧ i + 6 < (L : Int)) {σ : zSt} {V : zV} (hI : zInv σ V) (back : ∀ (σ2 : zSt) (V2 : zV), zInv σ2 V2 → z_G p l e room_1 s m args below meth c 4 D κ a A kc ks Q σ2 [some (.ref b), some (.ref (a 0)), some (.ref (a 80)), some (.int (zI i))] 985 []) : z_G p l e room_1 s m args below meth c 4 D κ a A kc ks Q σ [some (.ref b), some (.ref (a 0)), some (.ref (a 80)), some (.int (zI i))] 771 [] := by
  obtain ⟨hV, hM, hS, hPl, h62, hW, hKp⟩ := id hI
  refine r_aload1 X dL_law_771 ?_
  refine r_aload0 X dL_law_772 ?_
  refine r_iload3 X dL_law_773 ?_
  refine r_iconst X dL_law_774 ?_
  refine r_iadd X dL_law_775 ?_
  refine r_sld X S dL_law_776 ⟨by omega, by omega⟩ (by omega) ?_
  refine r_aload0 X dL_law_777 ?_
  refine r_iload3 X dL_law_778 ?_
  refine r_iconst X dL_law_779 ?_
  refine r_iadd X dL_law_780 ?_
  refine r_sld X S dL_law_781 ⟨by omega, by omega⟩ (by omega) ?_
  refine r_aload0 X dL_law_782 ?_
  refine r_iload3 X dL_law_783 ?_
  refine r_iconst X dL_law_784 ?_
  refine r_iadd X dL_law_785 ?_
  refine r_sld X S dL_law_786 ⟨by omega, by omega⟩ (by omega) ?_
  refine r_aload0 X dL_law_787 ?_
  refine r_iload3 X dL_law_788 ?_
  refine r_iconst X dL_law_789 ?_
  refine r_iadd X dL_law_790 ?_
  refine r_sld X S dL_law_791 ⟨by omega, by omega⟩ (by omega) ?_
  refine r_callVp (n := 4) X (c_X5_way l X.2.2.1 _ _ _ _ _ (sX_in _ _) (sX_in _ _) (sX_in _ _) (sX_in _ _) V hV hS hPl h62) dL_law_792 tw_477 tw_478 tw_479 tw_40 tw_480 z_c0 (by decide) rfl rfl (Nat.le_of_ble_eq_true rfl) ⟨by decide, by decide⟩ (by decide +kernel) rfl (fun z1 σ1 h1 => ?_)
  refine r_wr ?_
  refine r_aload2 X dL_law_795 ?_
  refine r_aload0 X dL_law_796 ?_
  refine r_iload3 X dL_law_797 ?_
  refine r_iconst X dL_law_798 ?_
  refine r_iadd X dL_law_799 ?_
  refine r_sld X S dL_law_800 ⟨by omega, by omega⟩ (by omega) ?_
  refine r_aload0 X dL_law_801 ?_
  refine r_iload3 X dL_law_802 ?_
  refine r_iconst X dL_law_803 ?_
  refine r_iadd X dL_law_804 ?_
  refine r_sld X S dL_law_805 ⟨by omega, by omega⟩ (by omega) ?_
  refine r_aload0 X dL_law_806 ?_
  refine r_iload3 X dL_law_807 ?_
  refine r_iconst X dL_law_808 ?_
  refine r_iadd X dL_law_809 ?_
  refine r_sld X S dL_law_810 ⟨by omega, by omega⟩ (by omega) ?_
  refine r_aload0 X dL_law_811 ?_
  refine r_iload3 X dL_law_812 ?_
  refine r_iconst X dL_law_813 ?_
  refine r_iadd X dL_law_814 ?_
  refine r_sld X S dL_law_815 ⟨by omega, by omega⟩ (by omega) ?_
  refine r_callVp (n := 4) X (c_X6_way l X.2.2.1 _ _ _ _ _ (sX_in _ _) (sX_in _ _) (sX_in _ _) (sX_in _ _) V hV (qry_M hM h1.2) (qry_W hW h1.2)) dL_law_816 tw_766 tw_767 tw_768 tw_46 tw_769 z_c80 (by decide) rfl rfl (Nat.le_of_ble_eq_true rfl) ⟨by decide, by decide⟩ (by decide +kernel) rfl (fun z2 σ2 h2 => ?_)
  refine r_wr ?_
  refine r_icmp_eq (tgt := 985) X dL_law_819 ⟨wr_in _, wr_in _⟩ (fun h819 => ?_) (fun h819 => ?_)
  · exact back σ2 V (inv_qry hI h1.2 h2.2)
  · exact absurd (congrArg wr (h1.1.trans h2.1.symm)) h819
set_option maxRecDepth 100000 in
set_option maxHeartbeats 4000000 in
theorem law_closest {p : Program} {l : Launch} {e : Env} {s : State} {m : MethodId} {args : Array Value} {below : List Frame} {meth : Method} {c : Code} {D : va_G} {κ : Nat → ClassId} {a : Nat → Nat} {A : Nat → Prop} {kc ks : Nat} {Q : State → Prop} {b L : Nat} {xs : Nat → Int32} (X : z_X p room_1 s m args c cL_law RL 4 D κ a A kc ks) (S : zScr s A b L xs) (hL : L ≤ 3584) {i : Int} (hi : 0 ≤ i ∧ i + 6 < (L : Int)) {σ : zSt} {V : zV} (hI : zInv σ V) (back : ∀ (σ2 : zSt) (V2 : zV), zInv σ2 V2 → z_G p l e room_1 s m args below meth c 4 D κ a A kc ks Q σ2 [some (.ref b), some (.ref (a 0)), some (.ref (a 80)), some (.int (zI i))] 985 []) : z_G p l e room_1 s m args below meth c 4 D κ a A kc ks Q σ [some (.ref b), some (.ref (a 0)), some (.ref (a 80)), some (.int (zI i))] 824 [] := by
  obtain ⟨hV, hM, hS, hPl, h62, hW, hKp⟩ := id hI
  refine r_aload1 X dL_law_824 ?_
  refine r_aload0 X dL_law_825 ?_
  refine r_iload3 X dL_law_826 ?_
  refine r_iconst X dL_law_827 ?_
  refine r_iadd X dL_law_828 ?_
  refine r_sld X S dL_law_829 ⟨by omega, by omega⟩ (by omega) ?_
  refine r_aload0 X dL_law_830 ?_
  refine r_iload3 X dL_law_831 ?_
  refine r_iconst X dL_law_832 ?_
  refine r_iadd X dL_law_833 ?_
  refine r_sld X S dL_law_834 ⟨by omega, by omega⟩ (by omega) ?_
  refine r_aload0 X dL_law_835 ?_
  refine r_iload3 X dL_law_836 ?_
  refine r_iconst X dL_law_837 ?_
  refine r_iadd X dL_law_838 ?_
  refine r_sld X S dL_law_839 ⟨by omega, by omega⟩ (by omega) ?_
  refine r_callVp (n := 3) X (c_X5_closest l X.2.2.1 _ _ _ _ (sX_in _ _) (sX_in _ _) (sX_in _ _) V hV hS hPl h62) dL_law_840 tw_492 tw_493 tw_494 tw_40 tw_495 z_c0 (by decide) rfl rfl (Nat.le_of_ble_eq_true rfl) ⟨by decide, by decide⟩ (by decide +kernel) rfl (fun z1 σ1 h1 => ?_)
  refine r_wr ?_
  refine r_aload2 X dL_law_843 ?_
  refine r_aload0 X dL_law_844 ?_
  refine r_iload3 X dL_law_845 ?_
  refine r_iconst X dL_law_846 ?_
  refine r_iadd X dL_law_847 ?_
  refine r_sld X S dL_law_848 ⟨by omega, by omega⟩ (by omega) ?_
  refine r_aload0 X dL_law_849 ?_
  refine r_iload3 X dL_law_850 ?_
  refine r_iconst X dL_law_851 ?_
  refine r_iadd X dL_law_852 ?_
  refine r_sld X S dL_law_853 ⟨by omega, by omega⟩ (by omega) ?_
  refine r_aload0 X dL_law_854 ?_
  refine r_iload3 X dL_law_855 ?_
  refine r_iconst X dL_law_856 ?_
  refine r_iadd X dL_law_857 ?_
  refine r_sld X S dL_law_858 ⟨by omega, by omega⟩ (by omega) ?_
  refine r_callVp (n := 3) X (c_X6_closest l X.2.2.1 _ _ _ _ (sX_in _ _) (sX_in _ _) (sX_in _ _) V hV (qry_M hM h1.2) (qry_W hW h1.2)) dL_law_859 tw_773 tw_774 tw_775 tw_46 tw_776 z_c80 (by decide) rfl rfl (Nat.le_of_ble_eq_true rfl) ⟨by decide, by decide⟩ (by decide +kernel) rfl (fun z2 σ2 h2 => ?_)
  refine r_wr ?_
  refine r_icmp_eq (tgt := 985) X dL_law_862 ⟨wr_in _, wr_in _⟩ (fun h862 => ?_) (fun h862 => ?_)
  · exact back σ2 V (inv_qry hI h1.2 h2.2)
  · exact absurd (congrArg wr (h1.1.trans h2.1.symm)) h862
set_option maxRecDepth 100000 in
set_option maxHeartbeats 4000000 in
theorem law_late {p : Program} {l : Launch} {e : Env} {s : State} {m : MethodId} {args : Array Value} {below : List Frame} {meth : Method} {c : Code} {D : va_G} {κ : Nat → ClassId} {a : Nat → Nat} {A : Nat → Prop} {kc ks : Nat} {Q : State → Prop} {b L : Nat} {xs : Nat → Int32} (X : z_X p room_1 s m args c cL_law RL 4 D κ a A kc ks) (S : zScr s A b L xs) (hL : L ≤ 3584) {i : Int} (hi : 0 ≤ i ∧ i + 6 < (L : Int)) {σ : zSt} {V : zV} (hI : zInv σ V) (back : ∀ (σ2 : zSt) (V2 : zV), zInv σ2 V2 → z_G p l e room_1 s m args below meth c 4 D κ a A kc ks Q σ2 [some (.ref b), some (.ref (a 0)), some (.ref (a 80)), some (.int (zI i))] 985 []) : z_G p l e room_1 s m args below meth c 4 D κ a A kc ks Q σ [some (.ref b), some (.ref (a 0)), some (.ref (a 80)), some (.int (zI i))] 867 [] := by
  obtain ⟨hV, hM, hS, hPl, h62, hW, hKp⟩ := id hI
  refine r_aload1 X dL_law_867 ?_
  refine r_aload0 X dL_law_868 ?_
  refine r_iload3 X dL_law_869 ?_
  refine r_iconst X dL_law_870 ?_
  refine r_iadd X dL_law_871 ?_
  refine r_sld X S dL_law_872 ⟨by omega, by omega⟩ (by omega) ?_
  refine r_aload0 X dL_law_873 ?_
  refine r_iload3 X dL_law_874 ?_
  refine r_iconst X dL_law_875 ?_
  refine r_iadd X dL_law_876 ?_
  refine r_sld X S dL_law_877 ⟨by omega, by omega⟩ (by omega) ?_
  refine r_callVp (n := 2) X (c_X5_late l X.2.2.1 _ _ _ (sX_in _ _) (sX_in _ _) V hV hS hPl h62) dL_law_878 tw_497 tw_498 tw_499 tw_40 tw_500 z_c0 (by decide) rfl rfl (Nat.le_of_ble_eq_true rfl) ⟨by decide, by decide⟩ (by decide +kernel) rfl (fun z1 σ1 h1 => ?_)
  refine r_wr ?_
  refine r_aload2 X dL_law_881 ?_
  refine r_aload0 X dL_law_882 ?_
  refine r_iload3 X dL_law_883 ?_
  refine r_iconst X dL_law_884 ?_
  refine r_iadd X dL_law_885 ?_
  refine r_sld X S dL_law_886 ⟨by omega, by omega⟩ (by omega) ?_
  refine r_aload0 X dL_law_887 ?_
  refine r_iload3 X dL_law_888 ?_
  refine r_iconst X dL_law_889 ?_
  refine r_iadd X dL_law_890 ?_
  refine r_sld X S dL_law_891 ⟨by omega, by omega⟩ (by omega) ?_
  refine r_callVp (n := 2) X (c_X6_late l X.2.2.1 _ _ _ (sX_in _ _) (sX_in _ _) V hV (qry_M hM h1.2) (qry_W hW h1.2)) dL_law_892 tw_777 tw_778 tw_779 tw_46 tw_780 z_c80 (by decide) rfl rfl (Nat.le_of_ble_eq_true rfl) ⟨by decide, by decide⟩ (by decide +kernel) rfl (fun z2 σ2 h2 => ?_)
  refine r_wr ?_
  refine r_icmp_eq (tgt := 985) X dL_law_895 ⟨wr_in _, wr_in _⟩ (fun h895 => ?_) (fun h895 => ?_)
  · exact back σ2 V (inv_qry hI h1.2 h2.2)
  · exact absurd (congrArg wr (h1.1.trans h2.1.symm)) h895
set_option maxRecDepth 100000 in
set_option maxHeartbeats 4000000 in
theorem law_hole {p : Program} {l : Launch} {e : Env} {s : State} {m : MethodId} {args : Array Value} {below : List Frame} {meth : Method} {c : Code} {D : va_G} {κ : Nat → ClassId} {a : Nat → Nat} {A : Nat → Prop} {kc ks : Nat} {Q : State → Prop} {b L : Nat} {xs : Nat → Int32} (X : z_X p room_1 s m args c cL_law RL 4 D κ a A kc ks) (S : zScr s A b L xs) (hL : L ≤ 3584) {i : Int} (hi : 0 ≤ i ∧ i + 6 < (L : Int)) {σ : zSt} {V : zV} (hI : zInv σ V) (back : ∀ (σ2 : zSt) (V2 : zV), zInv σ2 V2 → z_G p l e room_1 s m args below meth c 4 D κ a A kc ks Q σ2 [some (.ref b), some (.ref (a 0)), some (.ref (a 80)), some (.int (zI i))] 985 []) : z_G p l e room_1 s m args below meth c 4 D κ a A kc ks Q σ [some (.ref b), some (.ref (a 0)), some (.ref (a 80)), some (.int (zI i))] 900 [] := by
  obtain ⟨hV, hM, hS, hPl, h62, hW, hKp⟩ := id hI
  refine r_aload1 X dL_law_900 ?_
  refine r_aload0 X dL_law_901 ?_
  refine r_iload3 X dL_law_902 ?_
  refine r_iconst X dL_law_903 ?_
  refine r_iadd X dL_law_904 ?_
  refine r_sld X S dL_law_905 ⟨by omega, by omega⟩ (by omega) ?_
  refine r_callVp (n := 1) X (c_X5_hole l X.2.2.1 _ _ (sX_in _ _) V hV hS hPl h62) dL_law_906 tw_501 tw_502 tw_503 tw_40 tw_504 z_c0 (by decide) rfl rfl (Nat.le_of_ble_eq_true rfl) ⟨by decide, by decide⟩ (by decide +kernel) rfl (fun z1 σ1 h1 => ?_)
  refine r_wr ?_
  refine r_aload2 X dL_law_909 ?_
  refine r_aload0 X dL_law_910 ?_
  refine r_iload3 X dL_law_911 ?_
  refine r_iconst X dL_law_912 ?_
  refine r_iadd X dL_law_913 ?_
  refine r_sld X S dL_law_914 ⟨by omega, by omega⟩ (by omega) ?_
  refine r_callVp (n := 1) X (c_X6_hole l X.2.2.1 _ _ (sX_in _ _) V hV (qry_M hM h1.2) (qry_W hW h1.2)) dL_law_915 tw_781 tw_782 tw_783 tw_46 tw_784 z_c80 (by decide) rfl rfl (Nat.le_of_ble_eq_true rfl) ⟨by decide, by decide⟩ (by decide +kernel) rfl (fun z2 σ2 h2 => ?_)
  refine r_wr ?_
  refine r_icmp_eq (tgt := 985) X dL_law_918 ⟨wr_in _, wr_in _⟩ (fun h918 => ?_) (fun h918 => ?_)
  · exact back σ2 V (inv_qry hI h1.2 h2.2)
  · exact absurd (congrArg wr (h1.1.trans h2.1.symm)) h918
set_option maxRecDepth 100000 in
set_option maxHeartbeats 4000000 in
theorem law_ready {p : Program} {l : Launch} {e : Env} {s : State} {m : MethodId} {args : Array Value} {below : List Frame} {meth : Method} {c : Code} {D : va_G} {κ : Nat → ClassId} {a : Nat → Nat} {A : Nat → Prop} {kc ks : Nat} {Q : State → Prop} {b L : Nat} {xs : Nat → Int32} (X : z_X p room_1 s m args c cL_law RL 4 D κ a A kc ks) (S : zScr s A b L xs) (hL : L ≤ 3584) {i : Int} (hi : 0 ≤ i ∧ i + 6 < (L : Int)) {σ : zSt} {V : zV} (hI : zInv σ V) (back : ∀ (σ2 : zSt) (V2 : zV), zInv σ2 V2 → z_G p l e room_1 s m args below meth c 4 D κ a A kc ks Q σ2 [some (.ref b), some (.ref (a 0)), some (.ref (a 80)), some (.int (zI i))] 985 []) : z_G p l e room_1 s m args below meth c 4 D κ a A kc ks Q σ [some (.ref b), some (.ref (a 0)), some (.ref (a 80)), some (.int (zI i))] 923 [] := by
  obtain ⟨hV, hM, hS, hPl, h62, hW, hKp⟩ := id hI
  refine r_aload1 X dL_law_923 ?_
  refine r_callVp (n := 0) X (c_X5_ready l X.2.2.1 _   V hV hS hPl h62) dL_law_924 tw_509 tw_510 tw_511 tw_40 tw_512 z_c0 (by decide) rfl rfl (Nat.le_of_ble_eq_true rfl) ⟨by decide, by decide⟩ (by decide +kernel) rfl (fun z1 σ1 h1 => ?_)
  refine r_wr ?_
  refine r_aload2 X dL_law_927 ?_
  refine r_callVp (n := 0) X (c_X6_ready l X.2.2.1 _   V hV (qry_M hM h1.2) (qry_W hW h1.2)) dL_law_928 tw_785 tw_786 tw_787 tw_46 tw_788 z_c80 (by decide) rfl rfl (Nat.le_of_ble_eq_true rfl) ⟨by decide, by decide⟩ (by decide +kernel) rfl (fun z2 σ2 h2 => ?_)
  refine r_wr ?_
  refine r_icmp_eq (tgt := 985) X dL_law_931 ⟨wr_in _, wr_in _⟩ (fun h931 => ?_) (fun h931 => ?_)
  · exact back σ2 V (inv_qry hI h1.2 h2.2)
  · exact absurd (congrArg wr (h1.1.trans h2.1.symm)) h931
set_option maxRecDepth 100000 in
set_option maxHeartbeats 4000000 in
theorem law_many {p : Program} {l : Launch} {e : Env} {s : State} {m : MethodId} {args : Array Value} {below : List Frame} {meth : Method} {c : Code} {D : va_G} {κ : Nat → ClassId} {a : Nat → Nat} {A : Nat → Prop} {kc ks : Nat} {Q : State → Prop} {b L : Nat} {xs : Nat → Int32} (X : z_X p room_1 s m args c cL_law RL 4 D κ a A kc ks) (S : zScr s A b L xs) (hL : L ≤ 3584) {i : Int} (hi : 0 ≤ i ∧ i + 6 < (L : Int)) {σ : zSt} {V : zV} (hI : zInv σ V) (back : ∀ (σ2 : zSt) (V2 : zV), zInv σ2 V2 → z_G p l e room_1 s m args below meth c 4 D κ a A kc ks Q σ2 [some (.ref b), some (.ref (a 0)), some (.ref (a 80)), some (.int (zI i))] 985 []) : z_G p l e room_1 s m args below meth c 4 D κ a A kc ks Q σ [some (.ref b), some (.ref (a 0)), some (.ref (a 80)), some (.int (zI i))] 936 [] := by
  obtain ⟨hV, hM, hS, hPl, h62, hW, hKp⟩ := id hI
  refine r_aload1 X dL_law_936 ?_
  refine r_aload0 X dL_law_937 ?_
  refine r_iload3 X dL_law_938 ?_
  refine r_iconst X dL_law_939 ?_
  refine r_iadd X dL_law_940 ?_
  refine r_sld X S dL_law_941 ⟨by omega, by omega⟩ (by omega) ?_
  refine r_callVp (n := 1) X (c_X5_many l X.2.2.1 _ _ (sX_in _ _) V hV hS hPl h62) dL_law_942 tw_513 tw_514 tw_515 tw_40 tw_516 z_c0 (by decide) rfl rfl (Nat.le_of_ble_eq_true rfl) ⟨by decide, by decide⟩ (by decide +kernel) rfl (fun z1 σ1 h1 => ?_)
  refine r_wr ?_
  refine r_aload2 X dL_law_945 ?_
  refine r_aload0 X dL_law_946 ?_
  refine r_iload3 X dL_law_947 ?_
  refine r_iconst X dL_law_948 ?_
  refine r_iadd X dL_law_949 ?_
  refine r_sld X S dL_law_950 ⟨by omega, by omega⟩ (by omega) ?_
  refine r_callVp (n := 1) X (c_X6_many l X.2.2.1 _ _ (sX_in _ _) V hV (qry_M hM h1.2) (qry_W hW h1.2)) dL_law_951 tw_789 tw_790 tw_791 tw_46 tw_792 z_c80 (by decide) rfl rfl (Nat.le_of_ble_eq_true rfl) ⟨by decide, by decide⟩ (by decide +kernel) rfl (fun z2 σ2 h2 => ?_)
  refine r_wr ?_
  refine r_icmp_eq (tgt := 985) X dL_law_954 ⟨wr_in _, wr_in _⟩ (fun h954 => ?_) (fun h954 => ?_)
  · exact back σ2 V (inv_qry hI h1.2 h2.2)
  · exact absurd (congrArg wr (h1.1.trans h2.1.symm)) h954
set_option maxRecDepth 100000 in
set_option maxHeartbeats 4000000 in
theorem law_keep {p : Program} {l : Launch} {e : Env} {s : State} {m : MethodId} {args : Array Value} {below : List Frame} {meth : Method} {c : Code} {D : va_G} {κ : Nat → ClassId} {a : Nat → Nat} {A : Nat → Prop} {kc ks : Nat} {Q : State → Prop} {b L : Nat} {xs : Nat → Int32} (X : z_X p room_1 s m args c cL_law RL 4 D κ a A kc ks) (S : zScr s A b L xs) (hL : L ≤ 3584) {i : Int} (hi : 0 ≤ i ∧ i + 6 < (L : Int)) {σ : zSt} {V : zV} (hI : zInv σ V) (back : ∀ (σ2 : zSt) (V2 : zV), zInv σ2 V2 → z_G p l e room_1 s m args below meth c 4 D κ a A kc ks Q σ2 [some (.ref b), some (.ref (a 0)), some (.ref (a 80)), some (.int (zI i))] 985 []) : z_G p l e room_1 s m args below meth c 4 D κ a A kc ks Q σ [some (.ref b), some (.ref (a 0)), some (.ref (a 80)), some (.int (zI i))] 959 [] := by
  obtain ⟨hV, hM, hS, hPl, h62, hW, hKp⟩ := id hI
  refine r_aload1 X dL_law_959 ?_
  refine r_callVp (n := 0) X (c_X5_keep l X.2.2.1 _ V hV hS) dL_law_960 tw_530 tw_531 tw_532 tw_40 tw_533 z_c0 (by decide) rfl rfl (Nat.le_of_ble_eq_true rfl) ⟨by decide, by decide⟩ (by decide +kernel) rfl (fun z1 σ1 h1 => ?_)
  refine r_wr ?_
  refine r_aload2 X dL_law_963 ?_
  refine r_callVp (n := 0) X (c_X6_keep l X.2.2.1 _ V (hM.of (h1.2.2.2.2 81 (by omega)) (h1.2.2.2.2 82 (by omega)) (h1.2.2.2.2 83 (by omega)) (h1.2.2.2.2 84 (by omega)))) dL_law_964 tw_805 tw_806 tw_807 tw_46 tw_808 z_c80 (by decide) rfl rfl (Nat.le_of_ble_eq_true rfl) ⟨by decide, by decide⟩ (by decide +kernel) rfl (fun z2 σ2 h2 => ?_)
  refine r_wr ?_
  refine r_icmp_eq (tgt := 985) X dL_law_967 ⟨wr_in _, wr_in _⟩ (fun h967 => ?_) (fun h967 => ?_)
  · exact back σ2 V (inv_keep hI h1 h2)
  · exact absurd (congrArg wr (h1.1.trans h2.1.symm)) h967
set_option maxRecDepth 100000 in
set_option maxHeartbeats 4000000 in
theorem law_back {p : Program} {l : Launch} {e : Env} {s : State} {m : MethodId} {args : Array Value} {below : List Frame} {meth : Method} {c : Code} {D : va_G} {κ : Nat → ClassId} {a : Nat → Nat} {A : Nat → Prop} {kc ks : Nat} {Q : State → Prop} {b L : Nat} {xs : Nat → Int32} (X : z_X p room_1 s m args c cL_law RL 4 D κ a A kc ks) (S : zScr s A b L xs) (hL : L ≤ 3584) {i : Int} (hi : 0 ≤ i ∧ i + 6 < (L : Int)) {σ : zSt} {V : zV} (hI : zInv σ V) (back : ∀ (σ2 : zSt) (V2 : zV), zInv σ2 V2 → z_G p l e room_1 s m args below meth c 4 D κ a A kc ks Q σ2 [some (.ref b), some (.ref (a 0)), some (.ref (a 80)), some (.int (zI i))] 985 []) : z_G p l e room_1 s m args below meth c 4 D κ a A kc ks Q σ [some (.ref b), some (.ref (a 0)), some (.ref (a 80)), some (.int (zI i))] 972 [] := by
  obtain ⟨hV, hM, hS, hPl, h62, hW, hKp⟩ := id hI
  rcases id hKp with ⟨k1, k2⟩ | ⟨k1, k2, W, hW3⟩
  · refine r_aload1 X dL_law_972 ?_
    refine r_callVp (n := 0) X (c_X5_back l X.2.2.1 _ (Or.inl k2) V (fun q => by omega) hPl.1) dL_law_973 tw_548 tw_549 tw_550 tw_40 tw_551 z_c0 (by decide) rfl rfl (Nat.le_of_ble_eq_true rfl) ⟨by decide, by decide⟩ (by decide +kernel) rfl (fun z1 σ1 h1 => ?_)
    obtain ⟨e1, rfl⟩ := h1.1 k2
    refine r_wr ?_
    refine r_aload2 X dL_law_976 ?_
    refine r_callVp (n := 0) X (c_X6_back l X.2.2.1 _ V hM (Or.inl k1)) dL_law_977 tw_817 tw_818 tw_819 tw_46 tw_820 z_c80 (by decide) rfl rfl (Nat.le_of_ble_eq_true rfl) ⟨by decide, by decide⟩ (by decide +kernel) rfl (fun z2 σ2 h2 => ?_)
    obtain ⟨e2, rfl⟩ := h2.1 k1
    refine r_wr ?_
    refine r_icmp_eq (tgt := 985) X dL_law_980 ⟨wr_in _, wr_in _⟩ (fun h980 => ?_) (fun h980 => ?_)
    · exact back _ V hI
    · exact absurd (congrArg wr (e1.trans e2.symm)) h980
  · refine r_aload1 X dL_law_972 ?_
    refine r_callVp (n := 0) X (c_X5_back l X.2.2.1 _ (Or.inr k2) W (fun _ => ⟨hW3.1, hW3.2.1⟩) hPl.1) dL_law_973 tw_548 tw_549 tw_550 tw_40 tw_551 z_c0 (by decide) rfl rfl (Nat.le_of_ble_eq_true rfl) ⟨by decide, by decide⟩ (by decide +kernel) rfl (fun z1 σ1 h1 => ?_)
    obtain ⟨e1, g1⟩ := h1.2 k2
    have k3 : σ1 80 4 = 1 := by rw [g1.2.2 80 (by omega)]; exact k1
    refine r_wr ?_
    refine r_aload2 X dL_law_976 ?_
    refine r_callVp (n := 0) X (c_X6_back l X.2.2.1 _ V (hM.of (g1.2.2 81 (by omega)) (g1.2.2 82 (by omega)) (g1.2.2 83 (by omega)) (g1.2.2 84 (by omega))) (Or.inr k3)) dL_law_977 tw_817 tw_818 tw_819 tw_46 tw_820 z_c80 (by decide) rfl rfl (Nat.le_of_ble_eq_true rfl) ⟨by decide, by decide⟩ (by decide +kernel) rfl (fun z2 σ2 h2 => ?_)
    obtain ⟨e2, g2⟩ := h2.2 k3
    refine r_wr ?_
    refine r_icmp_eq (tgt := 985) X dL_law_980 ⟨wr_in _, wr_in _⟩ (fun h980 => ?_) (fun h980 => ?_)
    · exact back σ2 W (inv_back hI hW3 k1 k2 g1 g2)
    · exact absurd (congrArg wr (e1.trans e2.symm)) h980
