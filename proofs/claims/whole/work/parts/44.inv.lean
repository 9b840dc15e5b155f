/-- the script, as numbers -/
def sX (xs : Nat → Int32) (i : Int) : Int := (xs i.toNat).toInt
theorem sX_in (xs : Nat → Int32) (i : Int) : z_in (sX xs i) := zI_rng _
def zScr (s : State) (A : Nat → Prop) (b L : Nat) (xs : Nat → Int32) : Prop := va_X b L xs s s.heap ∧ b < s.heap.size ∧ ¬ A b
theorem r_sld {p : Program} {l : Launch} {e : Env} {R : Room} {s : State} {m : MethodId} {args : Array Value} {below : List Frame} {meth : Method} {c : Code} {cc : ByteArray} {own : String} {nL : Nat} {D : va_G} {κ : Nat → ClassId} {a : Nat → Nat} {A : Nat → Prop} {kc ks : Nat} {Q : State → Prop} {σ : zSt} {lv : List (Option Value)} {pc : Nat} {st : List Value} (X : z_X p R s m args c cc own nL D κ a A kc ks) {b L : Nat} {xs : Nat → Int32} (S : zScr s A b L xs) {i : Int} (hd : decode cc pc = .ok (.iaload, 1)) (hi : 0 ≤ i ∧ i < (L : Int)) (hL : L < 2147483648) (k : z_G p l e R s m args below meth c nL D κ a A kc ks Q σ lv (pc + 1) (.int (zI (sX xs i)) :: st)) : z_G p l e R s m args below meth c nL D κ a A kc ks Q σ lv pc (.int (zI i) :: .ref b :: st) :=
  fun ls H locs hl hP hS => va_sld X.1.1 X.1.2.1 S.1 S.2.1 S.2.2 hS (zI_vin hi.1 hi.2 hL) hd (by
    have h1 : (zI i).toNatClampNeg = i.toNat := by have := zI_clamp hi.1 hi.2 hL; omega
    rw [h1, zI_of (xs i.toNat)]
    exact k ls H locs hl hP hS)
theorem r_slen {p : Program} {l : Launch} {e : Env} {R : Room} {s : State} {m : MethodId} {args : Array Value} {below : List Frame} {meth : Method} {c : Code} {cc : ByteArray} {own : String} {nL : Nat} {D : va_G} {κ : Nat → ClassId} {a : Nat → Nat} {A : Nat → Prop} {kc ks : Nat} {Q : State → Prop} {σ : zSt} {lv : List (Option Value)} {pc : Nat} {st : List Value} (X : z_X p R s m args c cc own nL D κ a A kc ks) {b L : Nat} {xs : Nat → Int32} (S : zScr s A b L xs) (hd : decode cc pc = .ok (.arraylength, 1)) (k : z_G p l e R s m args below meth c nL D κ a A kc ks Q σ lv (pc + 1) (.int (zI (L : Int)) :: st)) : z_G p l e R s m args below meth c nL D κ a A kc ks Q σ lv pc (.ref b :: st) :=
  fun ls H locs hl hP hS => va_slen X.1.1 X.1.2.1 S.1 S.2.1 S.2.2 hS hd (by
    rw [show Int32.ofNat L = zI (L : Int) from (Int32.ofInt_eq_ofNat ..).symm]
    exact k ls H locs hl hP hS)
theorem r_iandw {p : Program} {l : Launch} {e : Env} {R : Room} {s : State} {m : MethodId} {args : Array Value} {below : List Frame} {meth : Method} {c : Code} {cc : ByteArray} {own : String} {nL : Nat} {D : va_G} {κ : Nat → ClassId} {a : Nat → Nat} {A : Nat → Prop} {kc ks : Nat} {Q : State → Prop} {σ : zSt} {lv : List (Option Value)} {pc : Nat} {st : List Value} (X : z_X p R s m args c cc own nL D κ a A kc ks) {x y : Int} (hd : decode cc pc = .ok (.iand, 1)) (k : z_G p l e R s m args below meth c nL D κ a A kc ks Q σ lv (pc + 1) (.int (zI (zI x &&& zI y).toInt) :: st)) : z_G p l e R s m args below meth c nL D κ a A kc ks Q σ lv pc (.int (zI y) :: .int (zI x) :: st) :=
  fun ls H locs hl hP hS => lv_iand X.1.1 X.1.2.1 hd (by
    rw [zI_of (zI x &&& zI y)]
    exact k ls H locs hl hP hS)
/-- is there a kept show, and which -/
def zKept (σ : zSt) : Prop := (σ 80 4 = 0 ∧ σ 0 2 = 0) ∨ (σ 80 4 = 1 ∧ σ 0 2 = 1 ∧ ∃ W : zV, v_ok W ∧ zShow σ 25 W ∧ ∀ j : Int, 0 ≤ j → j < 133 → σ 85 j = W j)
/-- class and model hold the same show -/
def zInv (σ : zSt) (V : zV) : Prop := v_ok V ∧ zModel σ V ∧ zShow σ 1 V ∧ zPl σ V 52 ∧ (0 ≤ σ 62 5 ∧ σ 62 5 ≤ 5) ∧ zWho σ ∧ zKept σ
theorem zKept.of {σ σ2 : zSt} (h : zKept σ) (e4 : σ2 80 4 = σ 80 4) (e0 : σ2 0 = σ 0) (e25 : ∀ c : Nat, 25 ≤ c → c < 49 → σ2 c = σ c) (e85 : σ2 85 = σ 85) : zKept σ2 := by
  unfold zKept
  rw [e4, e0, e85]
  rcases h with q | ⟨q1, q2, W, w1, w2, w3⟩
  · exact Or.inl q
  · exact Or.inr ⟨q1, q2, W, w1, w2.of (fun c c0 c1 => e25 c c0 (by omega)), w3⟩
theorem zModel.cong {σ : zSt} {V W : zV} (h : zModel σ V) (e : ∀ j : Int, 0 ≤ j → j < 133 → V j = W j) : zModel σ W := by
  obtain ⟨a, b, c, d⟩ := h
  exact ⟨fun j j0 j1 => by rw [← e _ (by omega) (by omega)]; exact a j j0 j1, fun j j0 j1 => by rw [← e _ (by omega) (by omega)]; exact b j j0 j1, fun j j0 j1 => by rw [← e _ (by omega) (by omega)]; exact c j j0 j1, fun j j0 j1 => by rw [← e _ (by omega) (by omega)]; exact d j j0 j1⟩
theorem mut_M {σ σ1 : zSt} {V V' : zV} {f : Int} (hM : zModel σ V) (h : zCup σ σ1 V V' f) : zModel σ1 V := hM.of (h.1.2 81 (by unfold zFr; omega)) (h.1.2 82 (by unfold zFr; omega)) (h.1.2 83 (by unfold zFr; omega)) (h.1.2 84 (by unfold zFr; omega))
theorem qry_M {σ σ1 : zSt} {V : zV} (hM : zModel σ V) (h : zCq σ σ1 V) : zModel σ1 V := hM.of (h.2.2.2 81 (by omega)) (h.2.2.2 82 (by omega)) (h.2.2.2 83 (by omega)) (h.2.2.2 84 (by omega))
theorem qry_W {σ σ1 : zSt} {V : zV} (hW : zWho σ) (h : zCq σ σ1 V) : zWho σ1 := hW.of (h.2.2.2 93 (by omega))
theorem inv_mut {σ σ1 σ2 : zSt} {V V' : zV} {f : Int} (hI : zInv σ V) (h1 : zCup σ σ1 V V' f) (h2 : zMup σ1 σ2 V') (hv : v_ok V') (hs : ∀ K : Nat, (K : Int) < f → (K : Int) < V' 1 → (K : Int) < V 1 ∧ vSame V V' K) : zInv σ2 V' := by
  obtain ⟨i1, i2, i3, i4, i5, i6, i7⟩ := hI
  have fr : ∀ c : Nat, zFr c → c < 80 → σ2 c = σ c := fun c hc h80 => by rw [h2.2.1 c (Or.inl h80)]; exact h1.1.2 c hc
  have e52 : σ2 52 = σ1 52 := h2.2.1 52 (by omega)
  refine ⟨hv, h2.1, h1.1.1.of (fun c c0 c1 => h2.2.1 c (by omega)), ?_, ?_, ?_, ?_⟩
  · refine zPl_keep i1 i4 (f := f) ?_ (fun c c0 c1 => fr c (by unfold zFr; omega) (by omega)) hs
    unfold zKn
    rw [e52]
    exact h1.2
  · rw [fr 62 (by unfold zFr; omega) (by omega)]; exact i5
  · exact h2.2.2.2 (i6.of (h1.1.2 93 (by unfold zFr; omega)))
  · exact i7.of (by rw [h2.2.2.1, h1.1.2 80 (by unfold zFr; omega)]) (fr 0 (by unfold zFr; omega) (by omega)) (fun c c0 c1 => fr c (by unfold zFr; omega) (by omega)) (by rw [h2.2.1 85 (by omega)]; exact h1.1.2 85 (by unfold zFr; omega))
theorem vSame.refl (V : zV) (n : Nat) : vSame V V n := ⟨rfl, fun _ _ _ => rfl, fun _ _ _ => ⟨rfl, fun _ _ _ => ⟨rfl, rfl, rfl⟩⟩, Or.inr ⟨rfl, fun _ _ _ => rfl, fun _ _ _ => rfl⟩⟩
/-- a change, or a refusal -/
theorem inv_mut2 {σ σ1 σ2 : zSt} {V V' : zV} {f z z2 : Int} (hI : zInv σ V) (ez : z = z2) (h1 : zCup σ σ1 V (z_if z V V') f) (h2 : zMup σ1 σ2 (z_if z2 V V')) (hv : 0 ≤ z → v_ok V' ∧ ∀ K : Nat, (K : Int) < f → (K : Int) < V' 1 → (K : Int) < V 1 ∧ vSame V V' K) : ∃ V2, zInv σ2 V2 := by
  subst ez
  by_cases h : z < 0
  · rw [zIf_n h] at h1 h2
    exact ⟨V, inv_mut hI h1 h2 hI.1 (fun K _ k => ⟨k, vSame.refl V K⟩)⟩
  · rw [zIf_p (by omega)] at h1 h2
    exact ⟨V', inv_mut hI h1 h2 (hv (by omega)).1 (hv (by omega)).2⟩
theorem inv_qry {σ σ1 σ2 : zSt} {V : zV} (hI : zInv σ V) (h1 : zCq σ σ1 V) (h2 : zMup σ1 σ2 V) : zInv σ2 V := by
  obtain ⟨i1, i2, i3, i4, i5, i6, i7⟩ := hI
  obtain ⟨c1, c2, c3, c4⟩ := h1
  exact ⟨i1, h2.1, c1.of (fun c c0 c1 => h2.2.1 c (by omega)), c2.of (fun c c0 c1 => h2.2.1 c (by omega)) i1, by rw [h2.2.1 62 (by omega)]; exact c3, h2.2.2.2 (i6.of (c4 93 (by omega))), i7.of (by rw [h2.2.2.1, c4 80 (by omega)]) (by rw [h2.2.1 0 (by omega)]; exact c4 0 (by omega)) (fun c d0 d1 => by rw [h2.2.1 c (by omega)]; exact c4 c (by omega)) (by rw [h2.2.1 85 (by omega)]; exact c4 85 (by omega))⟩
theorem inv_keep {σ σ1 σ2 : zSt} {V : zV} {z z2 : Int} (hI : zInv σ V) (h1 : z = 1 ∧ zShow σ1 1 V ∧ zShow σ1 25 V ∧ σ1 0 2 = 1 ∧ ∀ c : Nat, 49 ≤ c → σ1 c = σ c) (h2 : z2 = 1 ∧ zModel σ2 V ∧ (∀ c : Nat, c < 80 ∨ 86 ≤ c → σ2 c = σ1 c) ∧ σ2 80 4 = 1 ∧ ∀ j : Int, 0 ≤ j → j < 133 → σ2 85 j = V j) : zInv σ2 V := by
  obtain ⟨i1, i2, i3, i4, i5, i6, i7⟩ := hI
  obtain ⟨-, c1, c2, c3, c4⟩ := h1
  obtain ⟨-, m1, m2, m3, m4⟩ := h2
  have fr : ∀ c : Nat, 49 ≤ c → (c < 80 ∨ 86 ≤ c) → σ2 c = σ c := fun c h0 h9 => by rw [m2 c h9]; exact c4 c h0
  exact ⟨i1, m1, c1.of (fun c d0 d1 => m2 c (by omega)), i4.of (fun c d0 d1 => fr c (by omega) (by omega)) i1, by rw [fr 62 (by omega) (by omega)]; exact i5, i6.of (fr 93 (by omega) (by omega)), Or.inr ⟨m3, by rw [m2 0 (by omega)]; exact c3, V, i1, c2.of (fun c d0 d1 => m2 c (by omega)), m4⟩⟩
theorem inv_back {σ σ1 σ2 : zSt} {V W : zV} (hI : zInv σ V) (hW : v_ok W ∧ zShow σ 25 W ∧ ∀ j : Int, 0 ≤ j → j < 133 → σ 85 j = W j) (k1 : σ 80 4 = 1) (k2 : σ 0 2 = 1) (h1 : zShow σ1 1 W ∧ σ1 52 5 = 0 ∧ ∀ c : Nat, (c < 1 ∨ (25 ≤ c ∧ c ≠ 52)) → σ1 c = σ c) (h2 : zMup σ1 σ2 (σ1 85)) : zInv σ2 W := by
  obtain ⟨i1, i2, i3, i4, i5, i6, i7⟩ := hI
  obtain ⟨c1, c2, c3⟩ := h1
  have e85 : σ1 85 = σ 85 := c3 85 (by omega)
  rw [e85] at h2
  have fr : ∀ c : Nat, (c < 1 ∨ (25 ≤ c ∧ c ≠ 52)) → c < 80 → σ2 c = σ c := fun c hc h80 => by rw [h2.2.1 c (Or.inl h80)]; exact c3 c hc
  refine ⟨hW.1, h2.1.cong hW.2.2, c1.of (fun c d0 d1 => h2.2.1 c (by omega)), ⟨?_, fun K q _ => ?_⟩, ?_, h2.2.2.2 (i6.of (c3 93 (by omega))), ?_⟩
  · rw [h2.2.1 52 (by omega), c2]; omega
  · rw [h2.2.1 52 (by omega), c2] at q; omega
  · rw [fr 62 (by omega) (by omega)]; exact i5
  · exact i7.of (by rw [h2.2.2.1, c3 80 (by omega)]) (fr 0 (by omega) (by omega)) (fun c d0 d1 => fr c (by omega) (by omega)) (by rw [h2.2.1 85 (by omega)]; exact e85)

theorem mu_marcher {V : zV} (hV : v_ok V) {b : Int} (hz : 0 ≤ s_marcher V b) : v_ok (u_marcher V b) ∧ ∀ K : Nat, (K : Int) < 0 → (K : Int) < u_marcher V b 1 → (K : Int) < V 1 ∧ vSame V (u_marcher V b) K := by
  have hv0 := hV.1.1
  have hv1 := hV.1.2.1
  unfold s_marcher at hz
  have hc : (1 ≤ b ∧ b ≤ 4) ∧ V 0 ≠ 6 := by (repeat' split at hz) <;> omega
  exact ⟨vk_marcher hV hc, fun K h _ => by omega⟩
theorem mu_ill {V : zV} (hV : v_ok V) {m i : Int} (hi : i = 0 ∨ i = 1) (hz : 0 ≤ s_ill V m i) : v_ok (u_ill V m i) ∧ ∀ K : Nat, (K : Int) < 0 → (K : Int) < u_ill V m i 1 → (K : Int) < V 1 ∧ vSame V (u_ill V m i) K := by
  have hv0 := hV.1.1
  have hv1 := hV.1.2.1
  unfold s_ill at hz
  have hc : 0 ≤ m ∧ m < V 0 := by (repeat' split at hz) <;> omega
  exact ⟨v_ok_ill hV (by omega) hi, fun K h _ => by omega⟩
theorem mu_bound {V : zV} (hV : v_ok V) {m v : Int} (hz : 0 ≤ s_bound V m v) : v_ok (u_bound V m v) ∧ ∀ K : Nat, (K : Int) < 1 → (K : Int) < u_bound V m v 1 → (K : Int) < V 1 ∧ vSame V (u_bound V m v) K := by
  have hv0 := hV.1.1
  have hv1 := hV.1.2.1
  unfold s_bound at hz
  have hc : (0 ≤ m ∧ m < V 0) ∧ 1 ≤ v ∧ v ≤ 4 := by (repeat' split at hz) <;> omega
  exact ⟨vk_bound hV hc, vs_bound hv0 hc.1⟩
theorem mu_picture {V : zV} (hV : v_ok V) {b : Int} (hz : 0 ≤ s_picture V b) : v_ok (u_picture V b) ∧ ∀ K : Nat, (K : Int) < V 1 → (K : Int) < u_picture V b 1 → (K : Int) < V 1 ∧ vSame V (u_picture V b) K := by
  have hv0 := hV.1.1
  have hv1 := hV.1.2.1
  unfold s_picture at hz
  have hc : (1 ≤ b ∧ b ≤ 16) ∧ V 1 ≠ 5 := by (repeat' split at hz) <;> omega
  exact ⟨vk_picture hV hc, vs_picture hv0 ⟨by omega, by omega⟩⟩
theorem mu_counts {V : zV} (hV : v_ok V) {k v : Int} (hz : 0 ≤ s_counts V k v) : v_ok (u_counts V k v) ∧ ∀ K : Nat, (K : Int) < k → (K : Int) < u_counts V k v 1 → (K : Int) < V 1 ∧ vSame V (u_counts V k v) K := by
  have hv0 := hV.1.1
  have hv1 := hV.1.2.1
  unfold s_counts at hz
  have hc : (0 ≤ k ∧ k < V 1) ∧ 1 ≤ v ∧ v ≤ 16 := by (repeat' split at hz) <;> omega
  exact ⟨vk_counts hV hc, vs_counts hv0 ⟨by omega, by omega⟩⟩
theorem mu_solo {V : zV} (hV : v_ok V) {k d i : Int} (hi : i = 0 ∨ i = 1) (hz : 0 ≤ s_solo V k d i) : v_ok (u_solo V k d i) ∧ ∀ K : Nat, (K : Int) < k → (K : Int) < u_solo V k d i 1 → (K : Int) < V 1 ∧ vSame V (u_solo V k d i) K := by
  have hv0 := hV.1.1
  have hv1 := hV.1.2.1
  unfold s_solo at hz
  have hc : (0 ≤ k ∧ k < V 1) ∧ 0 ≤ d ∧ d < V (18 + (2 * k + 1)) := by (repeat' split at hz) <;> omega
  have h7 : V (18 + (2 * k + 1)) ≤ 7 := (vn_in hV (k := k) (by omega)).2.2
  exact ⟨vk_solo hV ⟨by omega, by omega, hi⟩, vs_solo hv0 ⟨by omega, by omega, by omega⟩⟩
theorem mu_scrub {V : zV} (hV : v_ok V) {k : Int} (hz : 0 ≤ s_scrub V k) : v_ok (u_scrub V k) ∧ ∀ K : Nat, (K : Int) < k → (K : Int) < u_scrub V k 1 → (K : Int) < V 1 ∧ vSame V (u_scrub V k) K := by
  have hv0 := hV.1.1
  have hv1 := hV.1.2.1
  unfold s_scrub at hz
  have hc : (0 ≤ k ∧ k < V 1) ∧ V (18 + (2 * k + 1)) ≠ 0 := by (repeat' split at hz) <;> omega
  have h7 : 0 ≤ V (18 + (2 * k + 1)) ∧ V (18 + (2 * k + 1)) ≤ 7 := (vn_in hV (k := k) (by omega)).2
  exact ⟨vk_scrub hV ⟨by omega, by omega, by omega⟩, vs_scrub hv0 ⟨by omega, by omega⟩⟩
theorem mu_rule {V : zV} (hV : v_ok V) {w v : Int} (hz : 0 ≤ s_rule V w v) : v_ok (u_rule V w v) ∧ ∀ K : Nat, (K : Int) < (if w = 0 then 1 else 5) → (K : Int) < u_rule V w v 1 → (K : Int) < V 1 ∧ vSame V (u_rule V w v) K := by
  have hv0 := hV.1.1
  have hv1 := hV.1.2.1
  unfold s_rule at hz
  have hc : (w = 0 ∧ 0 ≤ v ∧ v ≤ 3) ∨ (w = 1 ∧ 1 ≤ v ∧ v ≤ 20) := by
    split at hz
    · assumption
    · omega
  exact ⟨vk_rule hV hc, vs_rule hv0 (by omega)⟩
theorem mu_drums {V : zV} (hV : v_ok V) {x y : Int} (hz : 0 ≤ s_drums x y) : v_ok (u_drums V x y) ∧ ∀ K : Nat, (K : Int) < 5 → (K : Int) < u_drums V x y 1 → (K : Int) < V 1 ∧ vSame V (u_drums V x y) K := by
  have hv0 := hV.1.1
  unfold s_drums at hz
  have hc : (0 ≤ x ∧ x ≤ 40) ∧ 0 ≤ y ∧ y ≤ 40 := by (repeat' split at hz) <;> omega
  exact ⟨vk_drums hV hc, vs_drums hv0⟩
theorem mu_line {V : zV} (hV : v_ok V) {q n x y dx dy : Int} (hz : 0 ≤ s_line V q n x y dx dy) : v_ok (u_line V q n x y dx dy) ∧ ∀ K : Nat, (K : Int) < q → (K : Int) < u_line V q n x y dx dy 1 → (K : Int) < V 1 ∧ vSame V (u_line V q n x y dx dy) K := by
  have hv0 := hV.1.1
  have hv1 := hV.1.2.1
  unfold s_line at hz
  have hc : (0 ≤ q ∧ q < V 1) ∧ (1 ≤ n ∧ n ≤ 7) ∧ (-10 ≤ dx ∧ dx ≤ 10) ∧ -10 ≤ dy ∧ dy ≤ 10 := by
    split at hz
    · assumption
    · omega
  rw [if_pos hc] at hz
  have hp := s_put_ge hz
  have hD : 0 ≤ V (18 + (2 * q + 1)) := (vn_in hV (k := q) (by omega)).2.1
  have hn : 0 ≤ n := by omega
  unfold u_line
  refine ⟨vk_put hV (by omega) _ (by rw [show ((((n).toNat : Nat)) : Int) = n by omega]; exact hp.1) (by rw [show ((((n).toNat : Nat)) : Int) = n by omega]; exact hp.2), fun K h1 h2 => vs_put hv0 (by omega) hD (by rw [show ((((n).toNat : Nat)) : Int) = n by omega]; exact hp.1) K h1 h2⟩
theorem mu_block {V : zV} (hV : v_ok V) {q x y w h g : Int} (hz : 0 ≤ s_block V q x y w h g) : v_ok (u_block V q x y w h g) ∧ ∀ K : Nat, (K : Int) < q → (K : Int) < u_block V q x y w h g 1 → (K : Int) < V 1 ∧ vSame V (u_block V q x y w h g) K := by
  have hv0 := hV.1.1
  have hv1 := hV.1.2.1
  unfold s_block at hz
  have hc : (0 ≤ q ∧ q < V 1) ∧ (1 ≤ w ∧ w ≤ 4) ∧ (1 ≤ h ∧ h ≤ 4) ∧ 1 ≤ g ∧ g ≤ 5 := by
    split at hz
    · assumption
    · omega
  rw [if_pos hc] at hz
  have hp := s_put_ge hz
  have hD : 0 ≤ V (18 + (2 * q + 1)) := (vn_in hV (k := q) (by omega)).2.1
  have hn : 0 ≤ (w * h) := Int.mul_nonneg (by omega) (by omega)
  unfold u_block
  refine ⟨vk_put hV (by omega) _ (by rw [show (((((w * h)).toNat : Nat)) : Int) = (w * h) by omega]; exact hp.1) (by rw [show (((((w * h)).toNat : Nat)) : Int) = (w * h) by omega]; exact hp.2), fun K h1 h2 => vs_put hv0 (by omega) hD (by rw [show (((((w * h)).toNat : Nat)) : Int) = (w * h) by omega]; exact hp.1) K h1 h2⟩
theorem mu_corner {V : zV} (hV : v_ok V) {q x y n g : Int} (hz : 0 ≤ s_corner V q x y n g) : v_ok (u_corner V q x y n g) ∧ ∀ K : Nat, (K : Int) < q → (K : Int) < u_corner V q x y n g 1 → (K : Int) < V 1 ∧ vSame V (u_corner V q x y n g) K := by
  have hv0 := hV.1.1
  have hv1 := hV.1.2.1
  unfold s_corner at hz
  have hc : (0 ≤ q ∧ q < V 1) ∧ (1 ≤ n ∧ n ≤ 4) ∧ 1 ≤ g ∧ g ≤ 5 := by
    split at hz
    · assumption
    · omega
  rw [if_pos hc] at hz
  have hp := s_put_ge hz
  have hD : 0 ≤ V (18 + (2 * q + 1)) := (vn_in hV (k := q) (by omega)).2.1
  have hn : 0 ≤ (2 * n - 1) := by omega
  unfold u_corner
  refine ⟨vk_put hV (by omega) _ (by rw [show (((((2 * n - 1)).toNat : Nat)) : Int) = (2 * n - 1) by omega]; exact hp.1) (by rw [show (((((2 * n - 1)).toNat : Nat)) : Int) = (2 * n - 1) by omega]; exact hp.2), fun K h1 h2 => vs_put hv0 (by omega) hD (by rw [show (((((2 * n - 1)).toNat : Nat)) : Int) = (2 * n - 1) by omega]; exact hp.1) K h1 h2⟩
