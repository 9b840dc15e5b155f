theorem z_uc_s (σ : zSt) (c : Nat) (f : Int → Int) : z_uc σ c f c = f := if_pos rfl
theorem z_uc_n {σ : zSt} {c d : Nat} {f : Int → Int} (h : d ≠ c) : z_uc σ c f d = σ d := if_neg h
theorem z_cp_in {f g : Int → Int} {n j : Int} (h0 : 0 ≤ j) (h1 : j < n) : z_cp f g n j = f j := if_pos ⟨h0, h1⟩
/-- picture k of the show b is in σ1 what that of b2 is in σ -/
def zPicEq (σ1 σ : zSt) (b b2 k : Nat) : Prop := σ1 (b + 4 + 4 * k) 3 = σ (b2 + 4 + 4 * k) 3 ∧ σ1 (b + 4 + 4 * k) 4 = σ (b2 + 4 + 4 * k) 4 ∧ ∀ j : Int, 0 ≤ j → j < 7 → σ1 (b + 4 + 4 * k + 1) j = σ (b2 + 4 + 4 * k + 1) j ∧ σ1 (b + 4 + 4 * k + 2) j = σ (b2 + 4 + 4 * k + 2) j ∧ σ1 (b + 4 + 4 * k + 3) j = σ (b2 + 4 + 4 * k + 3) j
theorem zPicEq.of {σ1 σ2 σ : zSt} {b b2 k : Nat} (h : zPicEq σ1 σ b b2 k) (e : ∀ c : Nat, b + 4 + 4 * k ≤ c → c < b + 4 + 4 * k + 4 → σ2 c = σ1 c) : zPicEq σ2 σ b b2 k := by
  unfold zPicEq
  rw [e _ (by omega) (by omega), e _ (by omega) (by omega), e _ (by omega) (by omega), e _ (by omega) (by omega)]
  exact h
theorem zPicEq.src {σ1 σ0 σ : zSt} {b b2 k : Nat} (h : zPicEq σ1 σ0 b b2 k) (e : ∀ c : Nat, b2 + 4 + 4 * k ≤ c → c < b2 + 4 + 4 * k + 4 → σ0 c = σ c) : zPicEq σ1 σ b b2 k := by
  unfold zPicEq
  rw [← e _ (by omega) (by omega), ← e (b2 + 4 + 4 * k + 1) (by omega) (by omega), ← e (b2 + 4 + 4 * k + 2) (by omega) (by omega), ← e (b2 + 4 + 4 * k + 3) (by omega) (by omega)]
  exact h

theorem r_zlen {p : Program} {l : Launch} {e : Env} {R : Room} {s : State} {m : MethodId} {args : Array Value} {below : List Frame} {meth : Method} {c : Code} {cc : ByteArray} {own : String} {nL : Nat} {D : va_G} {κ : Nat → ClassId} {a : Nat → Nat} {A : Nat → Prop} {kc ks : Nat} {Q : State → Prop} {σ : zSt} {lv : List (Option Value)} {pc : Nat} {st : List Value} (X : z_X p R s m args c cc own nL D κ a A kc ks) {q n : Nat} (hd : decode cc pc = .ok (.arraylength, 1)) (hE : ∀ f, z_ce κ a q f = z_eZ κ n f) (hq : q < 96) (k : z_G p l e R s m args below meth c nL D κ a A kc ks Q σ lv (pc + 1) (.int (zI (n : Int)) :: st)) : z_G p l e R s m args below meth c nL D κ a A kc ks Q σ lv pc (.ref (a q) :: st) :=
  fun ls H locs hl hP hS => va_alen (x := (n, .inl (zaI (σ q)))) (ty := .boolean) X.1.1 X.1.2.1 X.2.1.1 hP q 2 (by rw [z_w_at hq, hE]) rfl (v := zI (n : Int)) (by show Int32.ofNat n = zI (n : Int); exact (Int32.ofInt_eq_ofNat ..).symm) hd (k ls H locs hl hP hS)
theorem z_cp_0 (σ : zSt) (q : Nat) (f : Int → Int) : σ = z_uc σ q (z_cp f (σ q) 0) := by
  funext d j
  by_cases e : d = q
  · rw [e, z_uc_s]
    unfold z_cp
    rw [if_neg (by omega)]
  · rw [z_uc_n e]
theorem z_cp_up (σ : zSt) (q : Nat) (f : Int → Int) {i : Int} (h : 0 ≤ i) : z_up (z_uc σ q (z_cp f (σ q) i)) q i (f i) = z_uc σ q (z_cp f (σ q) (i + 1)) := by
  funext d j
  by_cases e : d = q
  · rw [e, z_uc_s]
    by_cases ej : j = i
    · rw [ej, z_up_s]
      exact (z_cp_in h (by omega)).symm
    · rw [z_up_j ej, z_uc_s]
      unfold z_cp
      by_cases h2 : 0 ≤ j ∧ j < i
      · rw [if_pos h2, if_pos (by omega)]
      · rw [if_neg h2, if_neg (by omega)]
  · rw [z_up_c e, z_uc_n e, z_uc_n e]
set_option maxRecDepth 100000 in
set_option maxHeartbeats 4000000 in
theorem c_X5_copyFlags (l : Launch) {D : va_G} {κ : Nat → ClassId} {a : Nat → Nat} {A : Nat → Prop} (hA : z_aD a A) (σ : zSt) (q0 q1 n : Nat) (hE0 : ∀ f, z_ce κ a q0 f = z_eZ κ n f) (hE1 : ∀ f, z_ce κ a q1 f = z_eZ κ n f) (hq0 : q0 < 96) (hq1 : q1 < 96) (hne : q0 ≠ q1) (hN : n < 100) (hz : ∀ j : Int, 0 ≤ j → j < (n : Int) → σ q0 j = 0 ∨ σ q0 j = 1) : z_Tv l D κ a A yX5_copyFlags cX5_copyFlags 3 none 0 [.ref (a q0), .ref (a q1)] σ (z_uc σ q1 (z_cp (σ q0) (σ q1) (n : Int))) := by
  refine z_Tv_of (cc := cX5_copyFlags) (maxL := 3) (ret := none) (own := RX5) (lv0 := [some (.ref (a q0)), some (.ref (a q1)), none]) hA (by decide) rfl (Nat.le_of_ble_eq_true rfl) rfl ?_
  intro pg e s mm below meth c X M
  refine r_iconst X dX5_copyFlags_0 ?_
  refine r_istore2 X dX5_copyFlags_1 ?_
  refine r_eqs (z_cp_0 σ q1 (σ q0)) ?_
  have L : ∀ (fu : Nat) (i : Int), ((n : Int) - i) < (fu : Int) → 0 ≤ i → i ≤ (n : Int) → z_G pg l e (z_rm 0) s mm ([.ref (a q0), .ref (a q1)] : List Value).toArray below meth c 3 D κ a A 0 0 (MQ below (z_Qv D κ a A (z_uc σ q1 (z_cp (σ q0) (σ q1) (n : Int)))) ([.ref (a q0), .ref (a q1)] : List Value).toArray s 0 0 A) (z_uc σ q1 (z_cp (σ q0) (σ q1) i)) [some (.ref (a q0)), some (.ref (a q1)), some (.int (zI i))] 2 [] := by
    intro fu
    induction fu with
    | zero =>
      intro i hn i0 i1
      omega
    | succ fu ihL =>
      intro i hn i0 i1
      refine r_iload2 X dX5_copyFlags_2 ?_
      refine r_aload1 X dX5_copyFlags_3 ?_
      refine r_zlen X dX5_copyFlags_4 hE1 hq1 ?_
      refine r_icmp_ge (tgt := 26) X dX5_copyFlags_5 ⟨⟨by omega, by omega⟩, by omega, by omega⟩ (fun h5 => ?_) (fun h5 => ?_)
      · exact r_vret X M dX5_copyFlags_26 (by rw [show i = (n : Int) by omega])
      · refine r_iload2 X dX5_copyFlags_8 ?_
        refine r_aload0 X dX5_copyFlags_9 ?_
        refine r_zlen X dX5_copyFlags_10 hE0 hq0 ?_
        refine r_icmp_ge (tgt := 26) X dX5_copyFlags_11 ⟨⟨by omega, by omega⟩, by omega, by omega⟩ (fun h11 => ?_) (fun h11 => ?_)
        · exact r_vret X M dX5_copyFlags_26 (by rw [show i = (n : Int) by omega])
        · refine r_aload1 X dX5_copyFlags_14 ?_
          refine r_iload2 X dX5_copyFlags_15 ?_
          refine r_aload0 X dX5_copyFlags_16 ?_
          refine r_iload2 X dX5_copyFlags_17 ?_
          refine r_zald X dX5_copyFlags_18 (hn := by omega) hE0 hq0 ⟨by omega, by omega⟩ ?_
          refine r_eqi (y := σ q0 i) (by rw [z_uc_n hne]) ?_
          refine r_zast X dX5_copyFlags_19 (hn := by omega) hE1 hq1 ⟨by omega, by omega⟩ (hz i i0 h5) ?_
          refine r_eqs (z_cp_up σ q1 (σ q0) i0) ?_
          refine r_iinc2 X dX5_copyFlags_20 ?_
          refine r_goto (tgt := 2) X dX5_copyFlags_23 (by decide) ?_
          exact ihL (i + 1) (by omega) (by omega) (by omega)
  exact L (n + 1) 0 (by omega) (by omega) (by omega)

set_option maxRecDepth 100000 in
set_option maxHeartbeats 4000000 in
theorem c_X0_become (l : Launch) {D : va_G} {κ : Nat → ClassId} {a : Nat → Nat} {A : Nat → Prop} (hA : z_aD a A) (σ : zSt) (b b2 : Nat) (hb : b = 1 ∨ b = 25) (hb2 : b2 = 1 ∨ b2 = 25) (hne : b ≠ b2) (K : Nat) (hK : K < 5) (hzz : ∀ j : Int, 0 ≤ j → j < 7 → σ ((b2 + 4 + 4 * K) + 3) j = 0 ∨ σ ((b2 + 4 + 4 * K) + 3) j = 1) : z_Tq l D κ a A yX0_become cX0_become 2 none 1 [.ref (a (b + 4 + 4 * K)), .ref (a (b2 + 4 + 4 * K))] σ (fun σ' => zPicEq σ' σ b b2 K ∧ ∀ c : Nat, (c < (b + 4 + 4 * K) ∨ (b + 4 + 4 * K) + 4 ≤ c) → σ' c = σ c) := by
  refine z_Tq_of (cc := cX0_become) (maxL := 2) (ret := none) (own := RX0) (lv0 := [some (.ref (a (b + 4 + 4 * K))), some (.ref (a (b2 + 4 + 4 * K)))]) hA (by decide) rfl (Nat.le_of_ble_eq_true rfl) rfl ?_
  intro pg e s mm below meth c X M
  refine r_aload0 X dX0_become_0 ?_
  refine r_aload1 X dX0_become_1 ?_
  refine r_get X 4 dX0_become_2 (z_cPic (z_pic.mk hb2 hK)) in_X0 tw_81 (Nat.lt_of_le_of_lt (Nat.le_add_right _ 3) (z_pic.lt (z_pic.mk hb2 hK))) rfl rfl (by decide) ?_
  refine r_put (ty := .int) X 4 4 dX0_become_5 (z_cPic (z_pic.mk hb hK)) in_X0 tw_81 tyX0 tyX0_ok nmX0 (Nat.lt_of_le_of_lt (Nat.le_add_right _ 3) (z_pic.lt (z_pic.mk hb hK))) rfl (by decide) rfl (by decide +kernel) rfl rfl (fun _ _ => rfl) (Nat.le_of_ble_eq_true rfl) ?_
  refine r_aload0 X dX0_become_8 ?_
  refine r_aload1 X dX0_become_9 ?_
  refine r_get X 3 dX0_become_10 (z_cPic (z_pic.mk hb2 hK)) in_X0 tw_78 (Nat.lt_of_le_of_lt (Nat.le_add_right _ 3) (z_pic.lt (z_pic.mk hb2 hK))) rfl rfl (by decide) ?_
  refine r_eqi (y := σ (b2 + 4 + 4 * K) 3) (by rw [z_up_c (by omega)]) ?_
  refine r_put (ty := .int) X 3 3 dX0_become_13 (z_cPic (z_pic.mk hb hK)) in_X0 tw_78 tyX0 tyX0_ok nmX0 (Nat.lt_of_le_of_lt (Nat.le_add_right _ 3) (z_pic.lt (z_pic.mk hb hK))) rfl (by decide) rfl (by decide +kernel) rfl rfl (fun _ _ => rfl) (Nat.le_of_ble_eq_true rfl) ?_
  refine r_aload1 X dX0_become_16 ?_
  refine r_get X 0 dX0_become_17 (z_cPic (z_pic.mk hb2 hK)) in_X0 tw_71 (Nat.lt_of_le_of_lt (Nat.le_add_right _ 3) (z_pic.lt (z_pic.mk hb2 hK))) rfl rfl (by decide) ?_
  refine r_iconst X dX0_become_20 ?_
  refine r_aload0 X dX0_become_21 ?_
  refine r_get X 0 dX0_become_22 (z_cPic (z_pic.mk hb hK)) in_X0 tw_71 (Nat.lt_of_le_of_lt (Nat.le_add_right _ 3) (z_pic.lt (z_pic.mk hb hK))) rfl rfl (by decide) ?_
  refine r_iconst X dX0_become_25 ?_
  refine r_bipush X dX0_become_26 (by decide +kernel) ?_
  refine r_copyI X 7 dX0_become_28 tw_546 tw_444 tw_443 tw_49 (z_cPic1 (z_pic.mk hb2 hK)) (z_cPic1 (z_pic.mk hb hK)) ⟨(Nat.lt_of_le_of_lt (Nat.add_le_add_left (by decide : 1 ≤ 3) _) (z_pic.lt (z_pic.mk hb2 hK))), (Nat.lt_of_le_of_lt (Nat.add_le_add_left (by decide : 1 ≤ 3) _) (z_pic.lt (z_pic.mk hb hK)))⟩ ⟨by decide, by decide⟩ (by decide) ⟨by decide, Nat.le_of_ble_eq_true rfl⟩ ?_
  refine r_aload1 X dX0_become_31 ?_
  refine r_get X 1 dX0_become_32 (z_cPic (z_pic.mk hb2 hK)) in_X0 tw_73 (Nat.lt_of_le_of_lt (Nat.le_add_right _ 3) (z_pic.lt (z_pic.mk hb2 hK))) rfl rfl (by decide) ?_
  refine r_iconst X dX0_become_35 ?_
  refine r_aload0 X dX0_become_36 ?_
  refine r_get X 1 dX0_become_37 (z_cPic (z_pic.mk hb hK)) in_X0 tw_73 (Nat.lt_of_le_of_lt (Nat.le_add_right _ 3) (z_pic.lt (z_pic.mk hb hK))) rfl rfl (by decide) ?_
  refine r_iconst X dX0_become_40 ?_
  refine r_bipush X dX0_become_41 (by decide +kernel) ?_
  refine r_copyI X 7 dX0_become_43 tw_546 tw_444 tw_443 tw_49 (z_cPic2 (z_pic.mk hb2 hK)) (z_cPic2 (z_pic.mk hb hK)) ⟨(Nat.lt_of_le_of_lt (Nat.add_le_add_left (by decide : 2 ≤ 3) _) (z_pic.lt (z_pic.mk hb2 hK))), (Nat.lt_of_le_of_lt (Nat.add_le_add_left (by decide : 2 ≤ 3) _) (z_pic.lt (z_pic.mk hb hK)))⟩ ⟨by decide, by decide⟩ (by decide) ⟨by decide, Nat.le_of_ble_eq_true rfl⟩ ?_
  refine r_aload1 X dX0_become_46 ?_
  refine r_get X 2 dX0_become_47 (z_cPic (z_pic.mk hb2 hK)) in_X0 tw_75 (Nat.lt_of_le_of_lt (Nat.le_add_right _ 3) (z_pic.lt (z_pic.mk hb2 hK))) rfl rfl (by decide) ?_
  refine r_aload0 X dX0_become_50 ?_
  refine r_get X 2 dX0_become_51 (z_cPic (z_pic.mk hb hK)) in_X0 tw_75 (Nat.lt_of_le_of_lt (Nat.le_add_right _ 3) (z_pic.lt (z_pic.mk hb hK))) rfl rfl (by decide) ?_
  have hz : ∀ j : Int, 0 ≤ j → j < ((7 : Nat) : Int) → (z_uc (z_uc (z_up (z_up σ (b + 4 + 4 * K) 4 (σ (b2 + 4 + 4 * K) 4)) (b + 4 + 4 * K) 3 (σ (b2 + 4 + 4 * K) 3)) ((b + 4 + 4 * K) + 1) (z_cp ((z_up (z_up σ (b + 4 + 4 * K) 4 (σ (b2 + 4 + 4 * K) 4)) (b + 4 + 4 * K) 3 (σ (b2 + 4 + 4 * K) 3)) ((b2 + 4 + 4 * K) + 1)) ((z_up (z_up σ (b + 4 + 4 * K) 4 (σ (b2 + 4 + 4 * K) 4)) (b + 4 + 4 * K) 3 (σ (b2 + 4 + 4 * K) 3)) ((b + 4 + 4 * K) + 1)) ((7 : Nat) : Int))) ((b + 4 + 4 * K) + 2) (z_cp ((z_uc (z_up (z_up σ (b + 4 + 4 * K) 4 (σ (b2 + 4 + 4 * K) 4)) (b + 4 + 4 * K) 3 (σ (b2 + 4 + 4 * K) 3)) ((b + 4 + 4 * K) + 1) (z_cp ((z_up (z_up σ (b + 4 + 4 * K) 4 (σ (b2 + 4 + 4 * K) 4)) (b + 4 + 4 * K) 3 (σ (b2 + 4 + 4 * K) 3)) ((b2 + 4 + 4 * K) + 1)) ((z_up (z_up σ (b + 4 + 4 * K) 4 (σ (b2 + 4 + 4 * K) 4)) (b + 4 + 4 * K) 3 (σ (b2 + 4 + 4 * K) 3)) ((b + 4 + 4 * K) + 1)) ((7 : Nat) : Int))) ((b2 + 4 + 4 * K) + 2)) ((z_uc (z_up (z_up σ (b + 4 + 4 * K) 4 (σ (b2 + 4 + 4 * K) 4)) (b + 4 + 4 * K) 3 (σ (b2 + 4 + 4 * K) 3)) ((b + 4 + 4 * K) + 1) (z_cp ((z_up (z_up σ (b + 4 + 4 * K) 4 (σ (b2 + 4 + 4 * K) 4)) (b + 4 + 4 * K) 3 (σ (b2 + 4 + 4 * K) 3)) ((b2 + 4 + 4 * K) + 1)) ((z_up (z_up σ (b + 4 + 4 * K) 4 (σ (b2 + 4 + 4 * K) 4)) (b + 4 + 4 * K) 3 (σ (b2 + 4 + 4 * K) 3)) ((b + 4 + 4 * K) + 1)) ((7 : Nat) : Int))) ((b + 4 + 4 * K) + 2)) ((7 : Nat) : Int))) ((b2 + 4 + 4 * K) + 3) j = 0 ∨ (z_uc (z_uc (z_up (z_up σ (b + 4 + 4 * K) 4 (σ (b2 + 4 + 4 * K) 4)) (b + 4 + 4 * K) 3 (σ (b2 + 4 + 4 * K) 3)) ((b + 4 + 4 * K) + 1) (z_cp ((z_up (z_up σ (b + 4 + 4 * K) 4 (σ (b2 + 4 + 4 * K) 4)) (b + 4 + 4 * K) 3 (σ (b2 + 4 + 4 * K) 3)) ((b2 + 4 + 4 * K) + 1)) ((z_up (z_up σ (b + 4 + 4 * K) 4 (σ (b2 + 4 + 4 * K) 4)) (b + 4 + 4 * K) 3 (σ (b2 + 4 + 4 * K) 3)) ((b + 4 + 4 * K) + 1)) ((7 : Nat) : Int))) ((b + 4 + 4 * K) + 2) (z_cp ((z_uc (z_up (z_up σ (b + 4 + 4 * K) 4 (σ (b2 + 4 + 4 * K) 4)) (b + 4 + 4 * K) 3 (σ (b2 + 4 + 4 * K) 3)) ((b + 4 + 4 * K) + 1) (z_cp ((z_up (z_up σ (b + 4 + 4 * K) 4 (σ (b2 + 4 + 4 * K) 4)) (b + 4 + 4 * K) 3 (σ (b2 + 4 + 4 * K) 3)) ((b2 + 4 + 4 * K) + 1)) ((z_up (z_up σ (b + 4 + 4 * K) 4 (σ (b2 + 4 + 4 * K) 4)) (b + 4 + 4 * K) 3 (σ (b2 + 4 + 4 * K) 3)) ((b + 4 + 4 * K) + 1)) ((7 : Nat) : Int))) ((b2 + 4 + 4 * K) + 2)) ((z_uc (z_up (z_up σ (b + 4 + 4 * K) 4 (σ (b2 + 4 + 4 * K) 4)) (b + 4 + 4 * K) 3 (σ (b2 + 4 + 4 * K) 3)) ((b + 4 + 4 * K) + 1) (z_cp ((z_up (z_up σ (b + 4 + 4 * K) 4 (σ (b2 + 4 + 4 * K) 4)) (b + 4 + 4 * K) 3 (σ (b2 + 4 + 4 * K) 3)) ((b2 + 4 + 4 * K) + 1)) ((z_up (z_up σ (b + 4 + 4 * K) 4 (σ (b2 + 4 + 4 * K) 4)) (b + 4 + 4 * K) 3 (σ (b2 + 4 + 4 * K) 3)) ((b + 4 + 4 * K) + 1)) ((7 : Nat) : Int))) ((b + 4 + 4 * K) + 2)) ((7 : Nat) : Int))) ((b2 + 4 + 4 * K) + 3) j = 1 := fun j j0 j1 => by
    rw [z_uc_n (by omega), z_uc_n (by omega), z_up_c (by omega), z_up_c (by omega)]
    exact hzz j j0 (by omega)
  have hfin : zPicEq (z_uc (z_uc (z_uc (z_up (z_up σ (b + 4 + 4 * K) 4 (σ (b2 + 4 + 4 * K) 4)) (b + 4 + 4 * K) 3 (σ (b2 + 4 + 4 * K) 3)) ((b + 4 + 4 * K) + 1) (z_cp ((z_up (z_up σ (b + 4 + 4 * K) 4 (σ (b2 + 4 + 4 * K) 4)) (b + 4 + 4 * K) 3 (σ (b2 + 4 + 4 * K) 3)) ((b2 + 4 + 4 * K) + 1)) ((z_up (z_up σ (b + 4 + 4 * K) 4 (σ (b2 + 4 + 4 * K) 4)) (b + 4 + 4 * K) 3 (σ (b2 + 4 + 4 * K) 3)) ((b + 4 + 4 * K) + 1)) ((7 : Nat) : Int))) ((b + 4 + 4 * K) + 2) (z_cp ((z_uc (z_up (z_up σ (b + 4 + 4 * K) 4 (σ (b2 + 4 + 4 * K) 4)) (b + 4 + 4 * K) 3 (σ (b2 + 4 + 4 * K) 3)) ((b + 4 + 4 * K) + 1) (z_cp ((z_up (z_up σ (b + 4 + 4 * K) 4 (σ (b2 + 4 + 4 * K) 4)) (b + 4 + 4 * K) 3 (σ (b2 + 4 + 4 * K) 3)) ((b2 + 4 + 4 * K) + 1)) ((z_up (z_up σ (b + 4 + 4 * K) 4 (σ (b2 + 4 + 4 * K) 4)) (b + 4 + 4 * K) 3 (σ (b2 + 4 + 4 * K) 3)) ((b + 4 + 4 * K) + 1)) ((7 : Nat) : Int))) ((b2 + 4 + 4 * K) + 2)) ((z_uc (z_up (z_up σ (b + 4 + 4 * K) 4 (σ (b2 + 4 + 4 * K) 4)) (b + 4 + 4 * K) 3 (σ (b2 + 4 + 4 * K) 3)) ((b + 4 + 4 * K) + 1) (z_cp ((z_up (z_up σ (b + 4 + 4 * K) 4 (σ (b2 + 4 + 4 * K) 4)) (b + 4 + 4 * K) 3 (σ (b2 + 4 + 4 * K) 3)) ((b2 + 4 + 4 * K) + 1)) ((z_up (z_up σ (b + 4 + 4 * K) 4 (σ (b2 + 4 + 4 * K) 4)) (b + 4 + 4 * K) 3 (σ (b2 + 4 + 4 * K) 3)) ((b + 4 + 4 * K) + 1)) ((7 : Nat) : Int))) ((b + 4 + 4 * K) + 2)) ((7 : Nat) : Int))) ((b + 4 + 4 * K) + 3) (z_cp ((z_uc (z_uc (z_up (z_up σ (b + 4 + 4 * K) 4 (σ (b2 + 4 + 4 * K) 4)) (b + 4 + 4 * K) 3 (σ (b2 + 4 + 4 * K) 3)) ((b + 4 + 4 * K) + 1) (z_cp ((z_up (z_up σ (b + 4 + 4 * K) 4 (σ (b2 + 4 + 4 * K) 4)) (b + 4 + 4 * K) 3 (σ (b2 + 4 + 4 * K) 3)) ((b2 + 4 + 4 * K) + 1)) ((z_up (z_up σ (b + 4 + 4 * K) 4 (σ (b2 + 4 + 4 * K) 4)) (b + 4 + 4 * K) 3 (σ (b2 + 4 + 4 * K) 3)) ((b + 4 + 4 * K) + 1)) ((7 : Nat) : Int))) ((b + 4 + 4 * K) + 2) (z_cp ((z_uc (z_up (z_up σ (b + 4 + 4 * K) 4 (σ (b2 + 4 + 4 * K) 4)) (b + 4 + 4 * K) 3 (σ (b2 + 4 + 4 * K) 3)) ((b + 4 + 4 * K) + 1) (z_cp ((z_up (z_up σ (b + 4 + 4 * K) 4 (σ (b2 + 4 + 4 * K) 4)) (b + 4 + 4 * K) 3 (σ (b2 + 4 + 4 * K) 3)) ((b2 + 4 + 4 * K) + 1)) ((z_up (z_up σ (b + 4 + 4 * K) 4 (σ (b2 + 4 + 4 * K) 4)) (b + 4 + 4 * K) 3 (σ (b2 + 4 + 4 * K) 3)) ((b + 4 + 4 * K) + 1)) ((7 : Nat) : Int))) ((b2 + 4 + 4 * K) + 2)) ((z_uc (z_up (z_up σ (b + 4 + 4 * K) 4 (σ (b2 + 4 + 4 * K) 4)) (b + 4 + 4 * K) 3 (σ (b2 + 4 + 4 * K) 3)) ((b + 4 + 4 * K) + 1) (z_cp ((z_up (z_up σ (b + 4 + 4 * K) 4 (σ (b2 + 4 + 4 * K) 4)) (b + 4 + 4 * K) 3 (σ (b2 + 4 + 4 * K) 3)) ((b2 + 4 + 4 * K) + 1)) ((z_up (z_up σ (b + 4 + 4 * K) 4 (σ (b2 + 4 + 4 * K) 4)) (b + 4 + 4 * K) 3 (σ (b2 + 4 + 4 * K) 3)) ((b + 4 + 4 * K) + 1)) ((7 : Nat) : Int))) ((b + 4 + 4 * K) + 2)) ((7 : Nat) : Int))) ((b2 + 4 + 4 * K) + 3)) ((z_uc (z_uc (z_up (z_up σ (b + 4 + 4 * K) 4 (σ (b2 + 4 + 4 * K) 4)) (b + 4 + 4 * K) 3 (σ (b2 + 4 + 4 * K) 3)) ((b + 4 + 4 * K) + 1) (z_cp ((z_up (z_up σ (b + 4 + 4 * K) 4 (σ (b2 + 4 + 4 * K) 4)) (b + 4 + 4 * K) 3 (σ (b2 + 4 + 4 * K) 3)) ((b2 + 4 + 4 * K) + 1)) ((z_up (z_up σ (b + 4 + 4 * K) 4 (σ (b2 + 4 + 4 * K) 4)) (b + 4 + 4 * K) 3 (σ (b2 + 4 + 4 * K) 3)) ((b + 4 + 4 * K) + 1)) ((7 : Nat) : Int))) ((b + 4 + 4 * K) + 2) (z_cp ((z_uc (z_up (z_up σ (b + 4 + 4 * K) 4 (σ (b2 + 4 + 4 * K) 4)) (b + 4 + 4 * K) 3 (σ (b2 + 4 + 4 * K) 3)) ((b + 4 + 4 * K) + 1) (z_cp ((z_up (z_up σ (b + 4 + 4 * K) 4 (σ (b2 + 4 + 4 * K) 4)) (b + 4 + 4 * K) 3 (σ (b2 + 4 + 4 * K) 3)) ((b2 + 4 + 4 * K) + 1)) ((z_up (z_up σ (b + 4 + 4 * K) 4 (σ (b2 + 4 + 4 * K) 4)) (b + 4 + 4 * K) 3 (σ (b2 + 4 + 4 * K) 3)) ((b + 4 + 4 * K) + 1)) ((7 : Nat) : Int))) ((b2 + 4 + 4 * K) + 2)) ((z_uc (z_up (z_up σ (b + 4 + 4 * K) 4 (σ (b2 + 4 + 4 * K) 4)) (b + 4 + 4 * K) 3 (σ (b2 + 4 + 4 * K) 3)) ((b + 4 + 4 * K) + 1) (z_cp ((z_up (z_up σ (b + 4 + 4 * K) 4 (σ (b2 + 4 + 4 * K) 4)) (b + 4 + 4 * K) 3 (σ (b2 + 4 + 4 * K) 3)) ((b2 + 4 + 4 * K) + 1)) ((z_up (z_up σ (b + 4 + 4 * K) 4 (σ (b2 + 4 + 4 * K) 4)) (b + 4 + 4 * K) 3 (σ (b2 + 4 + 4 * K) 3)) ((b + 4 + 4 * K) + 1)) ((7 : Nat) : Int))) ((b + 4 + 4 * K) + 2)) ((7 : Nat) : Int))) ((b + 4 + 4 * K) + 3)) ((7 : Nat) : Int))) σ b b2 K ∧ ∀ c : Nat, (c < (b + 4 + 4 * K) ∨ (b + 4 + 4 * K) + 4 ≤ c) → (z_uc (z_uc (z_uc (z_up (z_up σ (b + 4 + 4 * K) 4 (σ (b2 + 4 + 4 * K) 4)) (b + 4 + 4 * K) 3 (σ (b2 + 4 + 4 * K) 3)) ((b + 4 + 4 * K) + 1) (z_cp ((z_up (z_up σ (b + 4 + 4 * K) 4 (σ (b2 + 4 + 4 * K) 4)) (b + 4 + 4 * K) 3 (σ (b2 + 4 + 4 * K) 3)) ((b2 + 4 + 4 * K) + 1)) ((z_up (z_up σ (b + 4 + 4 * K) 4 (σ (b2 + 4 + 4 * K) 4)) (b + 4 + 4 * K) 3 (σ (b2 + 4 + 4 * K) 3)) ((b + 4 + 4 * K) + 1)) ((7 : Nat) : Int))) ((b + 4 + 4 * K) + 2) (z_cp ((z_uc (z_up (z_up σ (b + 4 + 4 * K) 4 (σ (b2 + 4 + 4 * K) 4)) (b + 4 + 4 * K) 3 (σ (b2 + 4 + 4 * K) 3)) ((b + 4 + 4 * K) + 1) (z_cp ((z_up (z_up σ (b + 4 + 4 * K) 4 (σ (b2 + 4 + 4 * K) 4)) (b + 4 + 4 * K) 3 (σ (b2 + 4 + 4 * K) 3)) ((b2 + 4 + 4 * K) + 1)) ((z_up (z_up σ (b + 4 + 4 * K) 4 (σ (b2 + 4 + 4 * K) 4)) (b + 4 + 4 * K) 3 (σ (b2 + 4 + 4 * K) 3)) ((b + 4 + 4 * K) + 1)) ((7 : Nat) : Int))) ((b2 + 4 + 4 * K) + 2)) ((z_uc (z_up (z_up σ (b + 4 + 4 * K) 4 (σ (b2 + 4 + 4 * K) 4)) (b + 4 + 4 * K) 3 (σ (b2 + 4 + 4 * K) 3)) ((b + 4 + 4 * K) + 1) (z_cp ((z_up (z_up σ (b + 4 + 4 * K) 4 (σ (b2 + 4 + 4 * K) 4)) (b + 4 + 4 * K) 3 (σ (b2 + 4 + 4 * K) 3)) ((b2 + 4 + 4 * K) + 1)) ((z_up (z_up σ (b + 4 + 4 * K) 4 (σ (b2 + 4 + 4 * K) 4)) (b + 4 + 4 * K) 3 (σ (b2 + 4 + 4 * K) 3)) ((b + 4 + 4 * K) + 1)) ((7 : Nat) : Int))) ((b + 4 + 4 * K) + 2)) ((7 : Nat) : Int))) ((b + 4 + 4 * K) + 3) (z_cp ((z_uc (z_uc (z_up (z_up σ (b + 4 + 4 * K) 4 (σ (b2 + 4 + 4 * K) 4)) (b + 4 + 4 * K) 3 (σ (b2 + 4 + 4 * K) 3)) ((b + 4 + 4 * K) + 1) (z_cp ((z_up (z_up σ (b + 4 + 4 * K) 4 (σ (b2 + 4 + 4 * K) 4)) (b + 4 + 4 * K) 3 (σ (b2 + 4 + 4 * K) 3)) ((b2 + 4 + 4 * K) + 1)) ((z_up (z_up σ (b + 4 + 4 * K) 4 (σ (b2 + 4 + 4 * K) 4)) (b + 4 + 4 * K) 3 (σ (b2 + 4 + 4 * K) 3)) ((b + 4 + 4 * K) + 1)) ((7 : Nat) : Int))) ((b + 4 + 4 * K) + 2) (z_cp ((z_uc (z_up (z_up σ (b + 4 + 4 * K) 4 (σ (b2 + 4 + 4 * K) 4)) (b + 4 + 4 * K) 3 (σ (b2 + 4 + 4 * K) 3)) ((b + 4 + 4 * K) + 1) (z_cp ((z_up (z_up σ (b + 4 + 4 * K) 4 (σ (b2 + 4 + 4 * K) 4)) (b + 4 + 4 * K) 3 (σ (b2 + 4 + 4 * K) 3)) ((b2 + 4 + 4 * K) + 1)) ((z_up (z_up σ (b + 4 + 4 * K) 4 (σ (b2 + 4 + 4 * K) 4)) (b + 4 + 4 * K) 3 (σ (b2 + 4 + 4 * K) 3)) ((b + 4 + 4 * K) + 1)) ((7 : Nat) : Int))) ((b2 + 4 + 4 * K) + 2)) ((z_uc (z_up (z_up σ (b + 4 + 4 * K) 4 (σ (b2 + 4 + 4 * K) 4)) (b + 4 + 4 * K) 3 (σ (b2 + 4 + 4 * K) 3)) ((b + 4 + 4 * K) + 1) (z_cp ((z_up (z_up σ (b + 4 + 4 * K) 4 (σ (b2 + 4 + 4 * K) 4)) (b + 4 + 4 * K) 3 (σ (b2 + 4 + 4 * K) 3)) ((b2 + 4 + 4 * K) + 1)) ((z_up (z_up σ (b + 4 + 4 * K) 4 (σ (b2 + 4 + 4 * K) 4)) (b + 4 + 4 * K) 3 (σ (b2 + 4 + 4 * K) 3)) ((b + 4 + 4 * K) + 1)) ((7 : Nat) : Int))) ((b + 4 + 4 * K) + 2)) ((7 : Nat) : Int))) ((b2 + 4 + 4 * K) + 3)) ((z_uc (z_uc (z_up (z_up σ (b + 4 + 4 * K) 4 (σ (b2 + 4 + 4 * K) 4)) (b + 4 + 4 * K) 3 (σ (b2 + 4 + 4 * K) 3)) ((b + 4 + 4 * K) + 1) (z_cp ((z_up (z_up σ (b + 4 + 4 * K) 4 (σ (b2 + 4 + 4 * K) 4)) (b + 4 + 4 * K) 3 (σ (b2 + 4 + 4 * K) 3)) ((b2 + 4 + 4 * K) + 1)) ((z_up (z_up σ (b + 4 + 4 * K) 4 (σ (b2 + 4 + 4 * K) 4)) (b + 4 + 4 * K) 3 (σ (b2 + 4 + 4 * K) 3)) ((b + 4 + 4 * K) + 1)) ((7 : Nat) : Int))) ((b + 4 + 4 * K) + 2) (z_cp ((z_uc (z_up (z_up σ (b + 4 + 4 * K) 4 (σ (b2 + 4 + 4 * K) 4)) (b + 4 + 4 * K) 3 (σ (b2 + 4 + 4 * K) 3)) ((b + 4 + 4 * K) + 1) (z_cp ((z_up (z_up σ (b + 4 + 4 * K) 4 (σ (b2 + 4 + 4 * K) 4)) (b + 4 + 4 * K) 3 (σ (b2 + 4 + 4 * K) 3)) ((b2 + 4 + 4 * K) + 1)) ((z_up (z_up σ (b + 4 + 4 * K) 4 (σ (b2 + 4 + 4 * K) 4)) (b + 4 + 4 * K) 3 (σ (b2 + 4 + 4 * K) 3)) ((b + 4 + 4 * K) + 1)) ((7 : Nat) : Int))) ((b2 + 4 + 4 * K) + 2)) ((z_uc (z_up (z_up σ (b + 4 + 4 * K) 4 (σ (b2 + 4 + 4 * K) 4)) (b + 4 + 4 * K) 3 (σ (b2 + 4 + 4 * K) 3)) ((b + 4 + 4 * K) + 1) (z_cp ((z_up (z_up σ (b + 4 + 4 * K) 4 (σ (b2 + 4 + 4 * K) 4)) (b + 4 + 4 * K) 3 (σ (b2 + 4 + 4 * K) 3)) ((b2 + 4 + 4 * K) + 1)) ((z_up (z_up σ (b + 4 + 4 * K) 4 (σ (b2 + 4 + 4 * K) 4)) (b + 4 + 4 * K) 3 (σ (b2 + 4 + 4 * K) 3)) ((b + 4 + 4 * K) + 1)) ((7 : Nat) : Int))) ((b + 4 + 4 * K) + 2)) ((7 : Nat) : Int))) ((b + 4 + 4 * K) + 3)) ((7 : Nat) : Int))) c = σ c := by
    refine ⟨⟨?_, ?_, fun j j0 j1 => ⟨?_, ?_, ?_⟩⟩, fun c hc => ?_⟩
    · rw [z_uc_n (by omega), z_uc_n (by omega), z_uc_n (by omega), z_up_s]
    · rw [z_uc_n (by omega), z_uc_n (by omega), z_uc_n (by omega), z_up_j (by decide), z_up_s]
    · rw [z_uc_n (by omega), z_uc_n (by omega), z_uc_s, z_cp_in j0 (by omega), z_up_c (by omega), z_up_c (by omega)]
    · rw [z_uc_n (by omega), z_uc_s, z_cp_in j0 (by omega), z_uc_n (by omega), z_up_c (by omega), z_up_c (by omega)]
    · rw [z_uc_s, z_cp_in j0 (by omega), z_uc_n (by omega), z_uc_n (by omega), z_up_c (by omega), z_up_c (by omega)]
    · rw [z_uc_n (by omega), z_uc_n (by omega), z_uc_n (by omega), z_up_c (by omega), z_up_c (by omega)]
  refine r_callSNv (n := 2) X (c_X5_copyFlags l X.2.2.1 _ ((b2 + 4 + 4 * K) + 3) ((b + 4 + 4 * K) + 3) 7 (z_cPic3 (z_pic.mk hb2 hK)) (z_cPic3 (z_pic.mk hb hK)) (z_pic.lt (z_pic.mk hb2 hK)) (z_pic.lt (z_pic.mk hb hK)) (by omega) (by decide) hz) dX0_become_54 tw_541 X.2.1.2.2.2.2.1 tw_540 tw_40 rfl (Nat.le_of_ble_eq_true rfl) ⟨by decide, by decide⟩ (by decide +kernel) rfl ?_
  exact r_vretp X M dX0_become_57 hfin

set_option maxRecDepth 100000 in
set_option maxHeartbeats 4000000 in
theorem c_X4_become (l : Launch) {D : va_G} {κ : Nat → ClassId} {a : Nat → Nat} {A : Nat → Prop} (hA : z_aD a A) (σ : zSt) (b b2 : Nat) (hb : b = 1 ∨ b = 25) (hb2 : b2 = 1 ∨ b2 = 25) (hne : b ≠ b2) (V : zV) (hV : v_ok V) (hS : zShow σ b2 V) : z_Tq l D κ a A yX4_become cX4_become 3 none 2 [.ref (a b), .ref (a b2)] σ (fun σ' => zShow σ' b V ∧ ∀ c : Nat, (c < b ∨ b + 24 ≤ c) → σ' c = σ c) := by
  refine z_Tq_of (cc := cX4_become) (maxL := 3) (ret := none) (own := RX4) (lv0 := [some (.ref (a b)), some (.ref (a b2)), none]) hA (by decide) rfl (Nat.le_of_ble_eq_true rfl) rfl ?_
  intro pg e s mm below meth c X M
  obtain ⟨⟨hv0, hv1, hv2, hv3, hv4, hv5⟩, hvm, hvb, hvk, hvc, hvd⟩ := id hV
  obtain ⟨⟨f0, f1, f2, f3, f4, f5⟩, hm, hp⟩ := id hS
  refine r_aload1 X dX4_become_0 ?_
  refine r_get X 0 dX4_become_1 (z_cShow hb2) in_X4 tw_97 (by omega) rfl rfl (by decide) ?_
  refine r_iconst X dX4_become_4 ?_
  refine r_aload0 X dX4_become_5 ?_
  refine r_get X 0 dX4_become_6 (z_cShow hb) in_X4 tw_97 (by omega) rfl rfl (by decide) ?_
  refine r_iconst X dX4_become_9 ?_
  refine r_bipush X dX4_become_10 (by decide +kernel) ?_
  refine r_copyI X 6 dX4_become_12 tw_538 tw_444 tw_443 tw_49 (z_cShow1 hb2) (z_cShow1 hb) ⟨(by omega), (by omega)⟩ ⟨by decide, by decide⟩ (by decide) ⟨by decide, Nat.le_of_ble_eq_true rfl⟩ ?_
  refine r_aload1 X dX4_become_15 ?_
  refine r_get X 1 dX4_become_16 (z_cShow hb2) in_X4 tw_100 (by omega) rfl rfl (by decide) ?_
  refine r_aload0 X dX4_become_19 ?_
  refine r_get X 1 dX4_become_20 (z_cShow hb) in_X4 tw_100 (by omega) rfl rfl (by decide) ?_
  have hz : ∀ j : Int, 0 ≤ j → j < ((6 : Nat) : Int) → (z_uc σ (b + 1) (z_cp (σ (b2 + 1)) (σ (b + 1)) ((6 : Nat) : Int))) (b2 + 2) j = 0 ∨ (z_uc σ (b + 1) (z_cp (σ (b2 + 1)) (σ (b + 1)) ((6 : Nat) : Int))) (b2 + 2) j = 1 := fun j j0 j1 => by
    rw [z_uc_n (by omega), (hm j j0 (by omega)).2]
    have q1 := hvm j (by omega) (by omega)
    rw [show 7 + 2 * j = 6 + (2 * j + 1) by omega] at q1
    omega
  have hsolo : ∀ K : Nat, K < 5 → ∀ j : Int, 0 ≤ j → j < 7 → σ (b2 + 4 + 4 * K + 3) j = 0 ∨ σ (b2 + 4 + 4 * K + 3) j = 1 := fun K hK j j0 j1 => by
    rw [((hp K hK).2.2 j j0 j1).2.2]
    have h9 := hvd (7 * (K : Int) + j) (by omega) (by omega)
    rw [show 30 + 3 * (7 * (K : Int) + j) = 28 + (3 * (7 * (K : Int) + j) + 2) by omega] at h9
    omega
  refine r_callSNv (n := 2) X (c_X5_copyFlags l X.2.2.1 _ (b2 + 2) (b + 2) 6 (z_cShow2 hb2) (z_cShow2 hb) (by omega) (by omega) (by omega) (by decide) hz) dX4_become_23 tw_541 X.2.1.2.2.2.2.2 tw_540 tw_40 rfl (Nat.le_of_ble_eq_true rfl) ⟨by decide, by decide⟩ (by decide +kernel) rfl ?_
  refine r_aload0 X dX4_become_26 ?_
  refine r_aload1 X dX4_become_27 ?_
  refine r_get X 2 dX4_become_28 (z_cShow hb2) in_X4 tw_105 (by omega) rfl rfl (by decide) ?_
  refine r_eqi (y := V 0) (by rw [z_uc_n (by omega), z_uc_n (by omega)]; exact f0) ?_
  refine r_put (ty := .int) X 2 2 dX4_become_31 (z_cShow hb) in_X4 tw_105 tyX4 tyX4_ok nmX4 (by omega) rfl (by decide) rfl (by decide +kernel) rfl rfl (fun _ _ => rfl) (Nat.le_of_ble_eq_true rfl) ?_
  refine r_iconst X dX4_become_34 ?_
  refine r_istore2 X dX4_become_35 ?_
  have L : ∀ (fu : Nat) (i : Int) (σ1 : zSt), (5 - i) < (fu : Int) → 0 ≤ i → i ≤ 5 → (∀ c : Nat, (c < b ∨ b + 24 ≤ c) → σ1 c = σ c) → σ1 b 2 = V 0 → (∀ m : Int, 0 ≤ m → m < 6 → σ1 (b + 1) m = V (6 + 2 * m) ∧ σ1 (b + 2) m = V (6 + (2 * m + 1))) → (∀ k : Nat, (k : Int) < i → zPicEq σ1 σ b b2 k) → z_G pg l e (z_rm 2) s mm ([.ref (a b), .ref (a b2)] : List Value).toArray below meth c 3 D κ a A 0 0 (MQ below (z_Qq D κ a A (fun σ' => zShow σ' b V ∧ ∀ c : Nat, (c < b ∨ b + 24 ≤ c) → σ' c = σ c)) ([.ref (a b), .ref (a b2)] : List Value).toArray s 0 0 A) σ1 [some (.ref (a b)), some (.ref (a b2)), some (.int (zI i))] 36 [] := by
    intro fu
    induction fu with
    | zero =>
      intro i σ1 hn i0 i1 hF h2m hmm hpp
      omega
    | succ fu ihL =>
      intro i σ1 hn i0 i1 hF h2m hmm hpp
      refine r_iload2 X dX4_become_36 ?_
      refine r_iconst X dX4_become_37 ?_
      refine r_icmp_ge (tgt := 62) X dX4_become_38 ⟨⟨by omega, by omega⟩, by omega, by omega⟩ (fun h38 => ?_) (fun h38 => ?_)
      · have hc9 : ∀ c : Nat, c ≠ b → (z_up (z_up (z_up (z_up (z_up σ1 b 4 (V 1)) b 5 (V 2)) b 6 (V 3)) b 7 (V 4)) b 8 (V 5)) c = σ1 c := fun c hc => by rw [z_up_c hc, z_up_c hc, z_up_c hc, z_up_c hc, z_up_c hc]
        have hfin : zShow (z_up (z_up (z_up (z_up (z_up σ1 b 4 (V 1)) b 5 (V 2)) b 6 (V 3)) b 7 (V 4)) b 8 (V 5)) b V ∧ ∀ c : Nat, (c < b ∨ b + 24 ≤ c) → (z_up (z_up (z_up (z_up (z_up σ1 b 4 (V 1)) b 5 (V 2)) b 6 (V 3)) b 7 (V 4)) b 8 (V 5)) c = σ c := by
          refine ⟨⟨⟨?_, ?_, ?_, ?_, ?_, ?_⟩, fun m m0 m1 => ?_, fun k hk => ?_⟩, fun c hc => ?_⟩
          · rw [z_up_j (by decide), z_up_j (by decide), z_up_j (by decide), z_up_j (by decide), z_up_j (by decide)]; exact h2m
          · rw [z_up_j (by decide), z_up_j (by decide), z_up_j (by decide), z_up_j (by decide), z_up_s]
          · rw [z_up_j (by decide), z_up_j (by decide), z_up_j (by decide), z_up_s]
          · rw [z_up_j (by decide), z_up_j (by decide), z_up_s]
          · rw [z_up_j (by decide), z_up_s]
          · rw [z_up_s]
          · rw [hc9 _ (by omega), hc9 _ (by omega)]; exact hmm m m0 m1
          · obtain ⟨a1, a2, a3⟩ := hpp k (by omega)
            obtain ⟨b1, b3, b4⟩ := hp k hk
            rw [hc9 _ (by omega), hc9 _ (by omega), hc9 _ (by omega), hc9 _ (by omega)]
            refine ⟨a1.trans b1, fun q => a2.trans (b3 q), fun d d0 d1 => ?_⟩
            have a4 := a3 d d0 d1
            have b5 := b4 d d0 d1
            exact ⟨a4.1.trans b5.1, a4.2.1.trans b5.2.1, a4.2.2.trans b5.2.2⟩
          · rw [hc9 _ (by omega)]; exact hF c (by omega)
        refine r_aload0 X dX4_become_62 ?_
        refine r_aload1 X dX4_become_63 ?_
        refine r_get X 4 dX4_become_64 (z_cShow hb2) in_X4 tw_110 (by omega) rfl rfl (by decide) ?_
        refine r_eqi (y := V 1) (by (repeat rw [z_up_c (by omega)]); rw [hF _ (by omega)]; exact f1) ?_
        refine r_put (ty := .int) X 4 4 dX4_become_67 (z_cShow hb) in_X4 tw_110 tyX4 tyX4_ok nmX4 (by omega) rfl (by decide) rfl (by decide +kernel) rfl rfl (fun _ _ => rfl) (Nat.le_of_ble_eq_true rfl) ?_
        refine r_aload0 X dX4_become_70 ?_
        refine r_aload1 X dX4_become_71 ?_
        refine r_get X 5 dX4_become_72 (z_cShow hb2) in_X4 tw_113 (by omega) rfl rfl (by decide) ?_
        refine r_eqi (y := V 2) (by (repeat rw [z_up_c (by omega)]); rw [hF _ (by omega)]; exact f2) ?_
        refine r_put (ty := .int) X 5 5 dX4_become_75 (z_cShow hb) in_X4 tw_113 tyX4 tyX4_ok nmX4 (by omega) rfl (by decide) rfl (by decide +kernel) rfl rfl (fun _ _ => rfl) (Nat.le_of_ble_eq_true rfl) ?_
        refine r_aload0 X dX4_become_78 ?_
        refine r_aload1 X dX4_become_79 ?_
        refine r_get X 6 dX4_become_80 (z_cShow hb2) in_X4 tw_116 (by omega) rfl rfl (by decide) ?_
        refine r_eqi (y := V 3) (by (repeat rw [z_up_c (by omega)]); rw [hF _ (by omega)]; exact f3) ?_
        refine r_put (ty := .int) X 6 6 dX4_become_83 (z_cShow hb) in_X4 tw_116 tyX4 tyX4_ok nmX4 (by omega) rfl (by decide) rfl (by decide +kernel) rfl rfl (fun _ _ => rfl) (Nat.le_of_ble_eq_true rfl) ?_
        refine r_aload0 X dX4_become_86 ?_
        refine r_aload1 X dX4_become_87 ?_
        refine r_get X 7 dX4_become_88 (z_cShow hb2) in_X4 tw_118 (by omega) rfl rfl (by decide) ?_
        refine r_eqi (y := V 4) (by (repeat rw [z_up_c (by omega)]); rw [hF _ (by omega)]; exact f4) ?_
        refine r_put (ty := .int) X 7 7 dX4_become_91 (z_cShow hb) in_X4 tw_118 tyX4 tyX4_ok nmX4 (by omega) rfl (by decide) rfl (by decide +kernel) rfl rfl (fun _ _ => rfl) (Nat.le_of_ble_eq_true rfl) ?_
        refine r_aload0 X dX4_become_94 ?_
        refine r_aload1 X dX4_become_95 ?_
        refine r_get X 8 dX4_become_96 (z_cShow hb2) in_X4 tw_120 (by omega) rfl rfl (by decide) ?_
        refine r_eqi (y := V 5) (by (repeat rw [z_up_c (by omega)]); rw [hF _ (by omega)]; exact f5) ?_
        refine r_put (ty := .int) X 8 8 dX4_become_99 (z_cShow hb) in_X4 tw_120 tyX4 tyX4_ok nmX4 (by omega) rfl (by decide) rfl (by decide +kernel) rfl rfl (fun _ _ => rfl) (Nat.le_of_ble_eq_true rfl) ?_
        exact r_vretp X M dX4_become_102 hfin
      · obtain ⟨K, rfl⟩ : ∃ K : Nat, i = (K : Int) := ⟨i.toNat, by omega⟩
        have hK : K < 5 := by omega
        refine r_aload0 X dX4_become_41 ?_
        refine r_get X 3 dX4_become_42 (z_cShow hb) in_X4 tw_106 (by omega) rfl rfl (by decide) ?_
        refine r_iload2 X dX4_become_45 ?_
        refine r_aald (k := K) X dX4_become_46 hb hK ?_
        refine r_aload1 X dX4_become_47 ?_
        refine r_get X 3 dX4_become_48 (z_cShow hb2) in_X4 tw_106 (by omega) rfl rfl (by decide) ?_
        refine r_iload2 X dX4_become_51 ?_
        refine r_aald (k := K) X dX4_become_52 hb2 hK ?_
        refine r_callVq (n := 1) X (c_X0_become l X.2.2.1 _ b b2 hb hb2 hne K hK (fun j j0 j1 => by rw [hF _ (by omega)]; exact hsolo K hK j j0 j1)) dX4_become_53 tw_542 tw_543 tw_544 tw_42 tw_545 (z_cPic (z_pic.mk hb hK)) (Nat.lt_of_le_of_lt (Nat.le_add_right _ 3) (z_pic.lt (z_pic.mk hb hK))) rfl rfl (Nat.le_of_ble_eq_true rfl) ⟨by decide, by decide⟩ (by decide +kernel) rfl (fun σ2 h2 => ?_)
        refine r_iinc2 X dX4_become_56 ?_
        refine r_goto (tgt := 36) X dX4_become_59 (by decide) ?_
        exact ihL ((K : Int) + 1) _ (by omega) (by omega) (by omega) (fun c hc => by rw [h2.2 c (by omega)]; exact hF c hc) (by rw [h2.2 b (by omega)]; exact h2m) (fun m m0 m1 => by rw [h2.2 (b + 1) (by omega), h2.2 (b + 2) (by omega)]; exact hmm m m0 m1) (fun k hk => by by_cases e : k = K; (rw [e]; exact h2.1.src (fun c c0 c1 => hF c (by omega))); exact (hpp k (by omega)).of (fun c c0 c1 => h2.2 c (by omega)))
  exact L 6 0 _ (by omega) (by omega) (by omega) (fun c hc => by rw [z_up_c (by omega), z_uc_n (by omega), z_uc_n (by omega)]) z_up_s (fun m m0 m1 => by rw [z_up_c (by omega), z_up_c (by omega), z_uc_n (by omega), z_uc_s, z_uc_s, z_cp_in m0 (by omega), z_cp_in m0 (by omega), z_uc_n (by omega)]; exact hm m m0 m1) (fun k hk => by omega)

set_option maxRecDepth 100000 in
set_option maxHeartbeats 4000000 in
theorem c_X5_keep (l : Launch) {D : va_G} {κ : Nat → ClassId} {a : Nat → Nat} {A : Nat → Prop} (hA : z_aD a A) (σ : zSt) (V : zV) (hV : v_ok V) (hS : zShow σ 1 V) : z_Tp l D κ a A yX5_keep cX5_keep 1 (some .int) 3 [.ref (a 0)] σ (fun z σ' => z = 1 ∧ zShow σ' 1 V ∧ zShow σ' 25 V ∧ σ' 0 2 = 1 ∧ ∀ c : Nat, 49 ≤ c → σ' c = σ c) := by
  refine z_Tp_of (cc := cX5_keep) (maxL := 1) (ret := (some .int)) (own := RX5) (lv0 := [some (.ref (a 0))]) hA (by decide) rfl (Nat.le_of_ble_eq_true rfl) rfl ?_
  intro pg e s mm below meth c X M
  refine r_aload0 X dX5_keep_0 ?_
  refine r_get X 1 dX5_keep_1 z_c0 in_X5 tw_237 (by decide) rfl rfl (by decide) ?_
  refine r_aload0 X dX5_keep_4 ?_
  refine r_get X 0 dX5_keep_5 z_c0 in_X5 tw_236 (by decide) rfl rfl (by decide) ?_
  refine r_callVq (n := 1) X (c_X4_become l X.2.2.1 _ 25 1 (Or.inr rfl) (Or.inl rfl) (by decide) V hV hS) dX5_keep_8 tw_534 tw_535 tw_536 tw_41 tw_537 (z_cShow (Or.inr rfl)) (by decide) rfl rfl (Nat.le_of_ble_eq_true rfl) ⟨by decide, by decide⟩ (by decide +kernel) rfl (fun σ2 h2 => ?_)
  refine r_aload0 X dX5_keep_11 ?_
  refine r_iconst X dX5_keep_12 ?_
  refine r_put (ty := .boolean) X 2 2 dX5_keep_13 z_c0 in_X5 tw_238 tyX5 tyX5_ok nmX5 (by decide) rfl (by decide) rfl (by decide +kernel) (zI_narB (by omega)) (zI_fitB (by omega)) (fun _ _ => rfl) (Nat.le_of_ble_eq_true rfl) ?_
  refine r_iconst X dX5_keep_16 ?_
  exact r_iretp X M dX5_keep_17 ⟨rfl, hS.of (fun c c0 c1 => by rw [z_up_c (by omega)]; exact h2.2 c (by omega)), h2.1.of (fun c c0 c1 => z_up_c (by omega)), z_up_s, fun c hc => by rw [z_up_c (by omega)]; exact h2.2 c (by omega)⟩

set_option maxRecDepth 100000 in
set_option maxHeartbeats 4000000 in
theorem c_X5_back (l : Launch) {D : va_G} {κ : Nat → ClassId} {a : Nat → Nat} {A : Nat → Prop} (hA : z_aD a A) (σ : zSt) (hkt : σ 0 2 = 0 ∨ σ 0 2 = 1) (W : zV) (hW : σ 0 2 = 1 → v_ok W ∧ zShow σ 25 W) (hk : 0 ≤ σ 52 5 ∧ σ 52 5 ≤ 5) : z_Tp l D κ a A yX5_back cX5_back 1 (some .int) 3 [.ref (a 0)] σ (fun z σ' => (σ 0 2 = 0 → z = -3 ∧ σ' = σ) ∧ (σ 0 2 = 1 → z = 1 ∧ zShow σ' 1 W ∧ σ' 52 5 = 0 ∧ ∀ c : Nat, (c < 1 ∨ (25 ≤ c ∧ c ≠ 52)) → σ' c = σ c)) := by
  refine z_Tp_of (cc := cX5_back) (maxL := 1) (ret := (some .int)) (own := RX5) (lv0 := [some (.ref (a 0))]) hA (by decide) rfl (Nat.le_of_ble_eq_true rfl) rfl ?_
  intro pg e s mm below meth c X M
  refine r_aload0 X dX5_back_0 ?_
  refine r_get X 2 dX5_back_1 z_c0 in_X5 tw_238 (by decide) rfl rfl (by decide) ?_
  refine r_if_ne (tgt := 10) X dX5_back_4 ⟨by omega, by omega⟩ (fun h4 => ?_) (fun h4 => ?_)
  · refine r_aload0 X dX5_back_10 ?_
    refine r_get X 0 dX5_back_11 z_c0 in_X5 tw_236 (by decide) rfl rfl (by decide) ?_
    refine r_aload0 X dX5_back_14 ?_
    refine r_get X 1 dX5_back_15 z_c0 in_X5 tw_237 (by decide) rfl rfl (by decide) ?_
    refine r_callVq (n := 1) X (c_X4_become l X.2.2.1 _ 1 25 (Or.inl rfl) (Or.inr rfl) (by decide) W (hW (by omega)).1 (hW (by omega)).2) dX5_back_18 tw_534 tw_535 tw_536 tw_41 tw_537 (z_cShow (Or.inl rfl)) (by decide) rfl rfl (Nat.le_of_ble_eq_true rfl) ⟨by decide, by decide⟩ (by decide +kernel) rfl (fun σ2 h2 => ?_)
    have e52 : σ2 52 = σ 52 := h2.2 52 (by omega)
    have e525 : σ2 52 5 = σ 52 5 := by rw [e52]
    refine r_aload0 X dX5_back_21 ?_
    refine r_get X 4 dX5_back_22 z_c0 in_X5 tw_240 (by decide) rfl rfl (by decide) ?_
    refine r_iconst X dX5_back_25 ?_
    refine r_callVv (n := 1) X (c_X1_forgetFrom l X.2.2.1 _ 52 (Or.inl rfl) _ ⟨by omega, by omega⟩ ⟨by omega, by omega⟩) dX5_back_26 tw_262 tw_263 tw_264 tw_45 tw_265 (z_cPlan (Or.inl rfl)) (by decide) rfl rfl (Nat.le_of_ble_eq_true rfl) ⟨by decide, by decide⟩ (by decide +kernel) rfl ?_
    refine r_iconst X dX5_back_29 ?_
    exact r_iretp X M dX5_back_30 ⟨fun e => by omega, fun _ => ⟨rfl, h2.1.of (fun c c0 c1 => z_up_c (by omega)), by rw [z_up_s]; omega, fun c hc => by rw [z_up_c (by omega)]; exact h2.2 c (by omega)⟩⟩
  · refine r_bipush X dX5_back_7 (by decide +kernel) ?_
    exact r_iretp X M dX5_back_9 ⟨fun _ => ⟨rfl, rfl⟩, fun e => by omega⟩

