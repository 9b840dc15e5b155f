theorem vk_marcher {V : zV} (hV : v_ok V) {b : Int} (h : (1 ≤ b ∧ b ≤ 4) ∧ V 0 ≠ 6) : v_ok (u_marcher V b) := by
  obtain ⟨⟨hv0, hv1, hv2, hv3, hv4, hv5⟩, hvm, hvb, hvk, hvc, hvd⟩ := hV
  unfold v_ok u_marcher z_upf
  refine ⟨⟨?_, ?_, ?_, ?_, ?_, ?_⟩, fun m2 a b => ?_, fun m2 a => ?_, fun k2 a b => ?_, fun k2 a => ?_, fun j2 a b => ?_⟩
  · (repeat' split) <;> omega
  · (repeat' split) <;> omega
  · (repeat' split) <;> omega
  · (repeat' split) <;> omega
  · (repeat' split) <;> omega
  · (repeat' split) <;> omega
  · have h1 := hvm m2 a b
    (repeat' split) <;> omega
  · have h1 := hvb m2 a
    (repeat' split) <;> omega
  · have h1 := hvk k2 a b
    (repeat' split) <;> omega
  · have h1 := hvc k2 a
    (repeat' split) <;> omega
  · have h1 := hvd j2 a b
    (repeat' split) <;> omega
theorem vk_bound {V : zV} (hV : v_ok V) {m v : Int} (h : (0 ≤ m ∧ m < V 0) ∧ 1 ≤ v ∧ v ≤ 4) : v_ok (u_bound V m v) := by
  obtain ⟨⟨hv0, hv1, hv2, hv3, hv4, hv5⟩, hvm, hvb, hvk, hvc, hvd⟩ := hV
  unfold v_ok u_bound z_upf
  refine ⟨⟨?_, ?_, ?_, ?_, ?_, ?_⟩, fun m2 a b => ?_, fun m2 a => ?_, fun k2 a b => ?_, fun k2 a => ?_, fun j2 a b => ?_⟩
  · (repeat' split) <;> omega
  · (repeat' split) <;> omega
  · (repeat' split) <;> omega
  · (repeat' split) <;> omega
  · (repeat' split) <;> omega
  · (repeat' split) <;> omega
  · have h1 := hvm m2 a b
    (repeat' split) <;> omega
  · have h1 := hvb m2 a
    (repeat' split) <;> omega
  · have h1 := hvk k2 a b
    (repeat' split) <;> omega
  · have h1 := hvc k2 a
    (repeat' split) <;> omega
  · have h1 := hvd j2 a b
    (repeat' split) <;> omega
theorem vk_picture {V : zV} (hV : v_ok V) {b : Int} (h : (1 ≤ b ∧ b ≤ 16) ∧ V 1 ≠ 5) : v_ok (u_picture V b) := by
  obtain ⟨⟨hv0, hv1, hv2, hv3, hv4, hv5⟩, hvm, hvb, hvk, hvc, hvd⟩ := hV
  unfold v_ok u_picture z_upf
  refine ⟨⟨?_, ?_, ?_, ?_, ?_, ?_⟩, fun m2 a b => ?_, fun m2 a => ?_, fun k2 a b => ?_, fun k2 a => ?_, fun j2 a b => ?_⟩
  · (repeat' split) <;> omega
  · (repeat' split) <;> omega
  · (repeat' split) <;> omega
  · (repeat' split) <;> omega
  · (repeat' split) <;> omega
  · (repeat' split) <;> omega
  · have h1 := hvm m2 a b
    (repeat' split) <;> omega
  · have h1 := hvb m2 a
    (repeat' split) <;> omega
  · have h1 := hvk k2 a b
    (repeat' split) <;> omega
  · have h1 := hvc k2 a
    (repeat' split) <;> omega
  · have h1 := hvd j2 a b
    (repeat' split) <;> omega
theorem vk_counts {V : zV} (hV : v_ok V) {k v : Int} (h : (0 ≤ k ∧ k < V 1) ∧ 1 ≤ v ∧ v ≤ 16) : v_ok (u_counts V k v) := by
  obtain ⟨⟨hv0, hv1, hv2, hv3, hv4, hv5⟩, hvm, hvb, hvk, hvc, hvd⟩ := hV
  unfold v_ok u_counts z_upf
  refine ⟨⟨?_, ?_, ?_, ?_, ?_, ?_⟩, fun m2 a b => ?_, fun m2 a => ?_, fun k2 a b => ?_, fun k2 a => ?_, fun j2 a b => ?_⟩
  · (repeat' split) <;> omega
  · (repeat' split) <;> omega
  · (repeat' split) <;> omega
  · (repeat' split) <;> omega
  · (repeat' split) <;> omega
  · (repeat' split) <;> omega
  · have h1 := hvm m2 a b
    (repeat' split) <;> omega
  · have h1 := hvb m2 a
    (repeat' split) <;> omega
  · have h1 := hvk k2 a b
    (repeat' split) <;> omega
  · have h1 := hvc k2 a
    (repeat' split) <;> omega
  · have h1 := hvd j2 a b
    (repeat' split) <;> omega
theorem vk_solo {V : zV} (hV : v_ok V) {k d i : Int} (h : (0 ≤ k ∧ k < 5) ∧ (0 ≤ d ∧ d < 7) ∧ (i = 0 ∨ i = 1)) : v_ok (u_solo V k d i) := by
  obtain ⟨⟨hv0, hv1, hv2, hv3, hv4, hv5⟩, hvm, hvb, hvk, hvc, hvd⟩ := hV
  unfold v_ok u_solo z_upf
  refine ⟨⟨?_, ?_, ?_, ?_, ?_, ?_⟩, fun m2 a b => ?_, fun m2 a => ?_, fun k2 a b => ?_, fun k2 a => ?_, fun j2 a b => ?_⟩
  · (repeat' split) <;> omega
  · (repeat' split) <;> omega
  · (repeat' split) <;> omega
  · (repeat' split) <;> omega
  · (repeat' split) <;> omega
  · (repeat' split) <;> omega
  · have h1 := hvm m2 a b
    (repeat' split) <;> omega
  · have h1 := hvb m2 a
    (repeat' split) <;> omega
  · have h1 := hvk k2 a b
    (repeat' split) <;> omega
  · have h1 := hvc k2 a
    (repeat' split) <;> omega
  · have h1 := hvd j2 a b
    (repeat' split) <;> omega
theorem vk_scrub {V : zV} (hV : v_ok V) {k : Int} (h : (0 ≤ k ∧ k < 5) ∧ 1 ≤ V (18 + (2 * k + 1)) ∧ V (18 + (2 * k + 1)) ≤ 7) : v_ok (u_scrub V k) := by
  obtain ⟨⟨hv0, hv1, hv2, hv3, hv4, hv5⟩, hvm, hvb, hvk, hvc, hvd⟩ := hV
  unfold v_ok u_scrub z_upf
  refine ⟨⟨?_, ?_, ?_, ?_, ?_, ?_⟩, fun m2 a b => ?_, fun m2 a => ?_, fun k2 a b => ?_, fun k2 a => ?_, fun j2 a b => ?_⟩
  · (repeat' split) <;> omega
  · (repeat' split) <;> omega
  · (repeat' split) <;> omega
  · (repeat' split) <;> omega
  · (repeat' split) <;> omega
  · (repeat' split) <;> omega
  · have h1 := hvm m2 a b
    (repeat' split) <;> omega
  · have h1 := hvb m2 a
    (repeat' split) <;> omega
  · have h1 := hvk k2 a b
    (repeat' split) <;> omega
  · have h1 := hvc k2 a
    (repeat' split) <;> omega
  · have h1 := hvd j2 a b
    (repeat' split) <;> omega
theorem vk_rule {V : zV} (hV : v_ok V) {w v : Int} (h : (w = 0 ∧ 0 ≤ v ∧ v ≤ 3) ∨ (w = 1 ∧ 1 ≤ v ∧ v ≤ 20)) : v_ok (u_rule V w v) := by
  obtain ⟨⟨hv0, hv1, hv2, hv3, hv4, hv5⟩, hvm, hvb, hvk, hvc, hvd⟩ := hV
  unfold v_ok u_rule z_upf
  refine ⟨⟨?_, ?_, ?_, ?_, ?_, ?_⟩, fun m2 a b => ?_, fun m2 a => ?_, fun k2 a b => ?_, fun k2 a => ?_, fun j2 a b => ?_⟩
  · (repeat' split) <;> omega
  · (repeat' split) <;> omega
  · (repeat' split) <;> omega
  · (repeat' split) <;> omega
  · (repeat' split) <;> omega
  · (repeat' split) <;> omega
  · have h1 := hvm m2 a b
    (repeat' split) <;> omega
  · have h1 := hvb m2 a
    (repeat' split) <;> omega
  · have h1 := hvk k2 a b
    (repeat' split) <;> omega
  · have h1 := hvc k2 a
    (repeat' split) <;> omega
  · have h1 := hvd j2 a b
    (repeat' split) <;> omega
theorem vk_drums {V : zV} (hV : v_ok V) {x y : Int} (h : (0 ≤ x ∧ x ≤ 40) ∧ 0 ≤ y ∧ y ≤ 40) : v_ok (u_drums V x y) := by
  obtain ⟨⟨hv0, hv1, hv2, hv3, hv4, hv5⟩, hvm, hvb, hvk, hvc, hvd⟩ := hV
  unfold v_ok u_drums z_upf
  refine ⟨⟨?_, ?_, ?_, ?_, ?_, ?_⟩, fun m2 a b => ?_, fun m2 a => ?_, fun k2 a b => ?_, fun k2 a => ?_, fun j2 a b => ?_⟩
  · (repeat' split) <;> omega
  · (repeat' split) <;> omega
  · (repeat' split) <;> omega
  · (repeat' split) <;> omega
  · (repeat' split) <;> omega
  · (repeat' split) <;> omega
  · have h1 := hvm m2 a b
    (repeat' split) <;> omega
  · have h1 := hvb m2 a
    (repeat' split) <;> omega
  · have h1 := hvk k2 a b
    (repeat' split) <;> omega
  · have h1 := hvc k2 a
    (repeat' split) <;> omega
  · have h1 := hvd j2 a b
    (repeat' split) <;> omega
theorem vk_add {V : zV} (hV : v_ok V) {q x y : Int} (h : ((0 ≤ q ∧ q < 5) ∧ 0 ≤ V (18 + (2 * q + 1)) ∧ V (18 + (2 * q + 1)) ≤ 6) ∧ (0 ≤ x ∧ x ≤ 40) ∧ 0 ≤ y ∧ y ≤ 40) : v_ok (u_add V q x y) := by
  obtain ⟨⟨hv0, hv1, hv2, hv3, hv4, hv5⟩, hvm, hvb, hvk, hvc, hvd⟩ := hV
  unfold v_ok u_add z_upf
  refine ⟨⟨?_, ?_, ?_, ?_, ?_, ?_⟩, fun m2 a b => ?_, fun m2 a => ?_, fun k2 a b => ?_, fun k2 a => ?_, fun j2 a b => ?_⟩
  · (repeat' split) <;> omega
  · (repeat' split) <;> omega
  · (repeat' split) <;> omega
  · (repeat' split) <;> omega
  · (repeat' split) <;> omega
  · (repeat' split) <;> omega
  · have h1 := hvm m2 a b
    (repeat' split) <;> omega
  · have h1 := hvb m2 a
    (repeat' split) <;> omega
  · have h1 := hvk k2 a b
    (repeat' split) <;> omega
  · have h1 := hvc k2 a
    (repeat' split) <;> omega
  · have h1 := hvd j2 a b
    (repeat' split) <;> omega
theorem vk_put {V : zV} (hV : v_ok V) {q : Int} {sx sy : Int → Int} (hq : 0 ≤ q ∧ q < 5) : ∀ n : Nat, V (18 + (2 * q + 1)) + (n : Int) ≤ 7 → p_at V q sx sy (n : Int) → v_ok (u_put V q sx sy n)
  | 0, _, _ => hV
  | n + 1, h7, hp => by
    have hD : 0 ≤ V (18 + (2 * q + 1)) := (vn_in hV (k := q) hq).2.1
    have ih := vk_put hV hq n (by omega) (fun k k0 k1 => hp k k0 (by omega))
    have h1 := (hp (n : Int) (by omega) (by omega)).1.1
    have hnd := u_put_nd V q sx sy n
    rw [u_put_s]
    exact vk_add ih ⟨⟨hq, by rw [hnd]; omega, by rw [hnd]; omega⟩, h1⟩
theorem u_put_off {V : zV} {q : Int} {sx sy : Int → Int} (hD : 0 ≤ V (18 + (2 * q + 1))) {j : Int} (h1 : j ≠ 18 + (2 * q + 1)) (h2 : j < 28 + 21 * q ∨ 28 + 21 * q + 21 ≤ j) : ∀ n : Nat, V (18 + (2 * q + 1)) + (n : Int) ≤ 7 → u_put V q sx sy n j = V j
  | 0, _ => rfl
  | n + 1, h7 => by
    have ih := u_put_off hD h1 h2 (sx := sx) (sy := sy) n (by omega)
    have hnd := u_put_nd V q sx sy n
    rw [u_put_s]
    unfold u_add
    rw [z_upf_n h1, z_upf_n (by rw [hnd]; omega), z_upf_n (by rw [hnd]; omega), z_upf_n (by rw [hnd]; omega)]
    exact ih
theorem s_put_ge {V : zV} {q n : Int} {sx sy : Int → Int} (h : 0 ≤ s_put V q n sx sy) : V (18 + (2 * q + 1)) + n ≤ 7 ∧ p_at V q sx sy n := by
  unfold s_put at h
  split at h
  · omega
  · split at h
    · exact ⟨by omega, by assumption⟩
    · omega
/-- a search that may do the same comes to the same -/
theorem dfs_cong {ok ok' : Nat → (Nat → Int) → Nat → Prop} {st st' : Nat → Nat → Int} {fin fin' : (Nat → Int) → Prop} {nd N : Nat} (hok : ∀ t tk d, t < N → d < nd → (∀ i, i < t → 0 ≤ tk i ∧ tk i < (nd : Int)) → (ok t tk d ↔ ok' t tk d)) (hst : ∀ t d, t < N → d < nd → st t d = st' t d) (hfin : ∀ tk, fin tk ↔ fin' tk) : ∀ (r t : Nat) (tk : Nat → Int) (g s : Int) (c : zAcc), t + r = N → (∀ i, i < t → 0 ≤ tk i ∧ tk i < (nd : Int)) → dfs ok st fin nd r t tk g s c = dfs ok' st' fin' nd r t tk g s c
  | 0, t, tk, g, s, c, _, _ => by
    rw [dfs_0, dfs_0]
    by_cases h : fin tk ∧ better g s c
    · rw [cIf_t h, cIf_t ⟨(hfin tk).mp h.1, h.2⟩]
    · rw [cIf_f h, cIf_f (fun q => h ⟨(hfin tk).mpr q.1, q.2⟩)]
  | r + 1, t, tk, g, s, c, hN, htk => by
    rw [dfs_s, dfs_s]
    refine sp_lp_c nd (fun d c hd => ?_)
    by_cases h : ok t tk d
    · rw [cIf_t h, cIf_t ((hok t tk d (by omega) hd htk).mp h), hst t d (by omega) hd]
      refine dfs_cong hok hst hfin r (t + 1) _ _ _ _ (by omega) (fun i hi => ?_)
      by_cases e : i = t
      · rw [e, tkU_s]; omega
      · rw [tkU_n e]; exact htk i (by omega)
    · rw [cIf_f h, cIf_f (fun q => h ((hok t tk d (by omega) hd htk).mpr q))]
/-- V' is V in all that the setting of the pictures up to n looks at -/
def vSame (V V' : zV) (n : Nat) : Prop := V' 0 = V 0 ∧ (∀ m : Int, 0 ≤ m → m < V 0 → V' (6 + (2 * m + 1)) = V (6 + (2 * m + 1))) ∧ (∀ k : Int, 0 ≤ k → k ≤ (n : Int) → vn V' k = vn V k ∧ ∀ d : Int, 0 ≤ d → d < 7 → vx V' k d = vx V k d ∧ vy V' k d = vy V k d ∧ V' (28 + (3 * (7 * k + d) + 2)) = V (28 + (3 * (7 * k + d) + 2))) ∧ (n = 0 ∨ (V' 2 = V 2 ∧ (∀ m : Int, 0 ≤ m → m < V 0 → V' (6 + 2 * m) = V (6 + 2 * m)) ∧ ∀ k : Int, 1 ≤ k → k ≤ (n : Int) → vc V' k = vc V k))
theorem vSame.pred {V V' : zV} {n : Nat} (h : vSame V V' (n + 1)) : vSame V V' n := by
  obtain ⟨a, b, c, d⟩ := h
  refine ⟨a, b, fun k k0 k1 => c k k0 (by omega), Or.inr ?_⟩
  rcases d with d | d
  · omega
  · exact ⟨d.1, d.2.1, fun k k0 k1 => d.2.2 k k0 (by omega)⟩
theorem vWl_same {V V' : zV} (h0 : V' 0 = V 0) (h : ∀ m : Int, 0 ≤ m → m < V 0 → V' (6 + (2 * m + 1)) = V (6 + (2 * m + 1))) : vWl V' (V' 0).toNat = vWl V (V 0).toNat := by
  rw [h0]
  unfold vWl
  refine List.filter_congr (fun m hm => ?_)
  rw [h (m : Int) (by omega) (by have := List.mem_range.mp hm; omega)]
theorem vSame.N {V V' : zV} {n : Nat} (h : vSame V V' n) : vN V' = vN V := by unfold vN; rw [vWl_same h.1 h.2.1]
theorem vSame.w {V V' : zV} {n : Nat} (h : vSame V V' n) : vw V' = vw V := by funext t; unfold vw; rw [vWl_same h.1 h.2.1]
theorem vD_same {V V' : zV} (hV : v_ok V) {n : Nat} (hn : n < 5) (h : vSame V V' n) {gt : Nat → Int} (hg : n ≠ 0 → ∀ t, t < vN V → 0 ≤ gt t ∧ gt t < 7) : vD V' (n : Int) gt = vD V (n : Int) gt := by
  have h7 := (vn_in hV (k := (n : Int)) (by omega)).2
  have hc := h.2.2.1 (n : Int) (by omega) (by omega)
  unfold vD
  rw [hc.1, h.N]
  refine dfs_cong (N := vN V) ?_ ?_ ?_ _ _ _ _ _ _ (by omega) (fun i hi => by omega)
  · intro t tk d ht hd htk
    unfold vok
    by_cases e : n = 0
    · subst e
      exact ⟨fun q => ⟨q.1, Or.inl rfl⟩, fun q => ⟨q.1, Or.inl rfl⟩⟩
    · have hr : V' 2 = V 2 ∧ (∀ m : Int, 0 ≤ m → m < V 0 → V' (6 + 2 * m) = V (6 + 2 * m)) ∧ ∀ k : Int, 1 ≤ k → k ≤ (n : Int) → vc V' k = vc V k := by
        rcases h.2.2.2 with q | q
        · exact absurd q e
        · exact q
      have hp := h.2.2.1 ((n : Int) - 1) (by omega) (by omega)
      have hw := vw_in ht
      have gx : ∀ i, i ≤ t → vx V' ((n : Int) - 1) (gt i) = vx V ((n : Int) - 1) (gt i) ∧ vy V' ((n : Int) - 1) (gt i) = vy V ((n : Int) - 1) (gt i) := fun i hi => by
        have a := hg e i (by omega)
        have b := hp.2 (gt i) (by omega) (by omega)
        exact ⟨b.1, b.2.1⟩
      have dx := hc.2 (d : Int) (by omega) (by omega)
      have e1 : vstep V' (n : Int) (gt t) (d : Int) = vstep V (n : Int) (gt t) (d : Int) := by
        unfold vstep
        rw [dx.1, dx.2.1, (gx t (Nat.le_refl _)).1, (gx t (Nat.le_refl _)).2]
      have e2 : ∀ i, i < t → vnear V' (n : Int) (gt i) (tk i) (gt t) (d : Int) = vnear V (n : Int) (gt i) (tk i) (gt t) (d : Int) := fun i hi => by
        have a := htk i hi
        have b := hc.2 (tk i) (by omega) (by omega)
        unfold vnear
        rw [hr.2.2 (n : Int) (by omega) (by omega), dx.1, dx.2.1, b.1, b.2.1, (gx t (Nat.le_refl _)).1, (gx t (Nat.le_refl _)).2, (gx i (by omega)).1, (gx i (by omega)).2]
      rw [h.w, e1, hr.2.1 _ hw.1.1 hw.1.2, hr.2.2 (n : Int) (by omega) (by omega), hr.1]
      refine and_congr Iff.rfl (or_congr Iff.rfl (and_congr Iff.rfl ?_))
      exact ⟨fun q i hi => by rw [← e2 i hi]; exact q i hi, fun q i hi => by rw [e2 i hi]; exact q i hi⟩
  · intro t d ht hd
    unfold vst
    by_cases e : n = 0
    · rw [if_pos (by omega), if_pos (by omega)]
    · rw [if_neg (by omega), if_neg (by omega)]
      have hp := h.2.2.1 ((n : Int) - 1) (by omega) (by omega)
      have a := hg e t ht
      have b := hp.2 (gt t) (by omega) (by omega)
      have dx := hc.2 (d : Int) (by omega) (by omega)
      unfold vstep
      rw [dx.1, dx.2.1, b.1, b.2.1]
  · intro tk
    unfold vfin
    rw [hc.1, h.N]
    refine forall_congr' (fun d => forall_congr' (fun hd => ?_))
    have dx := hc.2 (d : Int) (by omega) (by omega)
    unfold vso
    rw [dx.2.2]
theorem vS_same {V V' : zV} (hV : v_ok V) : ∀ n : Nat, n < 5 → vSame V V' n → vS V' n = vS V n
  | 0, _, h => by
    show vD V' 0 (fun _ => 0) = vD V 0 (fun _ => 0)
    exact vD_same hV (n := 0) (by omega) h (fun q => absurd rfl q)
  | n + 1, hn, h => by
    have ih := vS_same hV n (by omega) h.pred
    show cIf ((vS V' n).1 = 1) (vD V' ((n : Int) + 1) (vS V' n).2.2.2) zAcc0 = cIf ((vS V n).1 = 1) (vD V ((n : Int) + 1) (vS V n).2.2.2) zAcc0
    rw [ih]
    by_cases e : (vS V n).1 = 1
    · rw [cIf_t e, cIf_t e]
      have hgd := (vS_good hV n (by omega)).2 e
      have h7 := (vn_in hV (k := (n : Int)) (by omega)).2
      exact vD_same hV (n := n + 1) hn h (fun _ t ht => by have := hgd.2.2 t ht; omega)
    · rw [cIf_f e, cIf_f e]
theorem PlanC.same {σ : zSt} {V V' : zV} {b K : Nat} (hV : v_ok V) (hK : K < 5) (hs : vSame V V' K) (h : PlanC σ V b K (vS V K)) : PlanC σ V' b K (vS V' K) := by
  rw [vS_same hV K hK hs]
  unfold PlanC
  rw [hs.N, hs.w]
  exact h
/-- the plan behind a change of the show -/
theorem zPl_keep {σ σ' : zSt} {V V' : zV} {f : Int} (hV : v_ok V) (hP : zPl σ V 52) (hk : zKn σ σ' V V' f) (hfr : ∀ c : Nat, 53 ≤ c → c < 62 → σ' c = σ c) (hs : ∀ K : Nat, (K : Int) < f → (K : Int) < V' 1 → (K : Int) < V 1 ∧ vSame V V' K) : zPl σ' V' 52 := by
  have h5 := hV.1.2.1
  have hr := hP.1
  refine ⟨by have := hk.1; omega, fun K k1 k2 => ?_⟩
  have k3 : (K : Int) < σ 52 5 := by have := hk.1; omega
  have key : ∀ W : zV, (K : Int) < 5 → PlanC σ W 52 K (vS W K) → PlanC σ' W 52 K (vS W K) := fun W h9 q => q.of (hfr _ (by omega) (by omega)) (hfr _ (by omega) (by omega)) (hfr _ (by omega) (by omega)) (hfr _ (by omega) (by omega))
  rcases hk.2 with q | q
  · have h9 := hs K (by omega) k2
    exact key V' (by omega) (PlanC.same hV (by omega) h9.2 (hP.2 K k3 h9.1))
  · rw [q] at k2 ⊢
    exact key V (by omega) (hP.2 K k3 k2)

theorem vs_bound {V : zV} {m v : Int} (h5 : 0 ≤ V 0 ∧ V 0 ≤ 6) (hm : 0 ≤ m ∧ m < V 0) (K : Nat) (hK : (K : Int) < 1) (hK1 : (K : Int) < u_bound V m v 1) : (K : Int) < V 1 ∧ vSame V (u_bound V m v) K := by
  have h9 : ∀ j : Int, j ≠ 6 + 2 * m → u_bound V m v j = V j := fun j hj => by
    unfold u_bound
    repeat rw [z_upf_n (by omega)]
  have hK2 : (K : Int) < V 1 := by
    first
    | (rw [h9 1 (by omega)] at hK1; exact hK1)
    | omega
  exact ⟨hK2, h9 0 (by omega), fun m a b => h9 _ (by omega), fun k a b => ⟨h9 _ (by omega), fun d d0 d1 => ⟨h9 _ (by omega), h9 _ (by omega), h9 _ (by omega)⟩⟩, by
    first
    | exact Or.inl (by omega)
    | exact Or.inr ⟨h9 _ (by omega), fun m a b => h9 _ (by omega), fun k a b => h9 _ (by omega)⟩⟩
theorem vs_picture {V : zV} {b : Int} (h5 : 0 ≤ V 0 ∧ V 0 ≤ 6) (h1 : 0 ≤ V 1 ∧ V 1 < 5) (K : Nat) (hK : (K : Int) < V 1) (hK1 : (K : Int) < u_picture V b 1) : (K : Int) < V 1 ∧ vSame V (u_picture V b) K := by
  have h9 : ∀ j : Int, j ≠ 18 + 2 * V 1 ∧ j ≠ 18 + (2 * V 1 + 1) ∧ j ≠ 1 → u_picture V b j = V j := fun j hj => by
    unfold u_picture
    repeat rw [z_upf_n (by omega)]
  have hK2 : (K : Int) < V 1 := by
    first
    | (rw [h9 1 (by omega)] at hK1; exact hK1)
    | omega
  exact ⟨hK2, h9 0 (by omega), fun m a b => h9 _ (by omega), fun k a b => ⟨h9 _ (by omega), fun d d0 d1 => ⟨h9 _ (by omega), h9 _ (by omega), h9 _ (by omega)⟩⟩, by
    first
    | exact Or.inl (by omega)
    | exact Or.inr ⟨h9 _ (by omega), fun m a b => h9 _ (by omega), fun k a b => h9 _ (by omega)⟩⟩
theorem vs_counts {V : zV} {k9 v : Int} (h5 : 0 ≤ V 0 ∧ V 0 ≤ 6) (hk : 0 ≤ k9 ∧ k9 < 5) (K : Nat) (hK : (K : Int) < k9) (hK1 : (K : Int) < u_counts V k9 v 1) : (K : Int) < V 1 ∧ vSame V (u_counts V k9 v) K := by
  have h9 : ∀ j : Int, j ≠ 18 + 2 * k9 → u_counts V k9 v j = V j := fun j hj => by
    unfold u_counts
    repeat rw [z_upf_n (by omega)]
  have hK2 : (K : Int) < V 1 := by
    first
    | (rw [h9 1 (by omega)] at hK1; exact hK1)
    | omega
  exact ⟨hK2, h9 0 (by omega), fun m a b => h9 _ (by omega), fun k a b => ⟨h9 _ (by omega), fun d d0 d1 => ⟨h9 _ (by omega), h9 _ (by omega), h9 _ (by omega)⟩⟩, by
    first
    | exact Or.inl (by omega)
    | exact Or.inr ⟨h9 _ (by omega), fun m a b => h9 _ (by omega), fun k a b => h9 _ (by omega)⟩⟩
theorem vs_solo {V : zV} {k9 d9 i : Int} (h5 : 0 ≤ V 0 ∧ V 0 ≤ 6) (hk : 0 ≤ k9 ∧ 0 ≤ d9 ∧ d9 < 7) (K : Nat) (hK : (K : Int) < k9) (hK1 : (K : Int) < u_solo V k9 d9 i 1) : (K : Int) < V 1 ∧ vSame V (u_solo V k9 d9 i) K := by
  have h9 : ∀ j : Int, j ≠ 28 + (3 * (7 * k9 + d9) + 2) → u_solo V k9 d9 i j = V j := fun j hj => by
    unfold u_solo
    repeat rw [z_upf_n (by omega)]
  have hK2 : (K : Int) < V 1 := by
    first
    | (rw [h9 1 (by omega)] at hK1; exact hK1)
    | omega
  exact ⟨hK2, h9 0 (by omega), fun m a b => h9 _ (by omega), fun k a b => ⟨h9 _ (by omega), fun d d0 d1 => ⟨h9 _ (by omega), h9 _ (by omega), h9 _ (by omega)⟩⟩, by
    first
    | exact Or.inl (by omega)
    | exact Or.inr ⟨h9 _ (by omega), fun m a b => h9 _ (by omega), fun k a b => h9 _ (by omega)⟩⟩
theorem vs_scrub {V : zV} {k9 : Int} (h5 : 0 ≤ V 0 ∧ V 0 ≤ 6) (hk : 0 ≤ k9 ∧ k9 < 5) (K : Nat) (hK : (K : Int) < k9) (hK1 : (K : Int) < u_scrub V k9 1) : (K : Int) < V 1 ∧ vSame V (u_scrub V k9) K := by
  have h9 : ∀ j : Int, j ≠ 18 + (2 * k9 + 1) → u_scrub V k9 j = V j := fun j hj => by
    unfold u_scrub
    repeat rw [z_upf_n (by omega)]
  have hK2 : (K : Int) < V 1 := by
    first
    | (rw [h9 1 (by omega)] at hK1; exact hK1)
    | omega
  exact ⟨hK2, h9 0 (by omega), fun m a b => h9 _ (by omega), fun k a b => ⟨h9 _ (by omega), fun d d0 d1 => ⟨h9 _ (by omega), h9 _ (by omega), h9 _ (by omega)⟩⟩, by
    first
    | exact Or.inl (by omega)
    | exact Or.inr ⟨h9 _ (by omega), fun m a b => h9 _ (by omega), fun k a b => h9 _ (by omega)⟩⟩
theorem vs_rule {V : zV} {w v : Int} (h5 : 0 ≤ V 0 ∧ V 0 ≤ 6) (hw : w = 0 ∨ w = 1) (K : Nat) (hK : (K : Int) < (if w = 0 then 1 else 5)) (hK1 : (K : Int) < u_rule V w v 1) : (K : Int) < V 1 ∧ vSame V (u_rule V w v) K := by
  have h9 : ∀ j : Int, j ≠ 2 + w → u_rule V w v j = V j := fun j hj => by
    unfold u_rule
    rw [z_upf_n (by omega)]
  rw [h9 1 (by omega)] at hK1
  rcases hw with rfl | rfl
  · have hK2 : (K : Int) < 1 := by simpa using hK
    exact ⟨hK1, h9 0 (by omega), fun m a b => h9 _ (by omega), fun k a b => ⟨h9 _ (by omega), fun d d0 d1 => ⟨h9 _ (by omega), h9 _ (by omega), h9 _ (by omega)⟩⟩, Or.inl (by omega)⟩
  · exact ⟨hK1, h9 0 (by omega), fun m a b => h9 _ (by omega), fun k a b => ⟨h9 _ (by omega), fun d d0 d1 => ⟨h9 _ (by omega), h9 _ (by omega), h9 _ (by omega)⟩⟩, Or.inr ⟨h9 _ (by omega), fun m a b => h9 _ (by omega), fun k a b => h9 _ (by omega)⟩⟩
theorem vs_drums {V : zV} {x y : Int} (h5 : 0 ≤ V 0 ∧ V 0 ≤ 6) (K : Nat) (hK : (K : Int) < 5) (hK1 : (K : Int) < u_drums V x y 1) : (K : Int) < V 1 ∧ vSame V (u_drums V x y) K := by
  have h9 : ∀ j : Int, j ≠ 4 ∧ j ≠ 5 → u_drums V x y j = V j := fun j hj => by
    unfold u_drums
    repeat rw [z_upf_n (by omega)]
  have hK2 : (K : Int) < V 1 := by
    first
    | (rw [h9 1 (by omega)] at hK1; exact hK1)
    | omega
  exact ⟨hK2, h9 0 (by omega), fun m a b => h9 _ (by omega), fun k a b => ⟨h9 _ (by omega), fun d d0 d1 => ⟨h9 _ (by omega), h9 _ (by omega), h9 _ (by omega)⟩⟩, by
    first
    | exact Or.inl (by omega)
    | exact Or.inr ⟨h9 _ (by omega), fun m a b => h9 _ (by omega), fun k a b => h9 _ (by omega)⟩⟩
theorem vs_put {V : zV} {q : Int} {sx sy : Int → Int} {n : Nat} (h5 : 0 ≤ V 0 ∧ V 0 ≤ 6) (hq : 0 ≤ q ∧ q < 5) (hD : 0 ≤ V (18 + (2 * q + 1))) (h7 : V (18 + (2 * q + 1)) + (n : Int) ≤ 7) (K : Nat) (hK : (K : Int) < q) (hK1 : (K : Int) < u_put V q sx sy n 1) : (K : Int) < V 1 ∧ vSame V (u_put V q sx sy n) K := by
  have h9 : ∀ j : Int, j ≠ 18 + (2 * q + 1) ∧ (j < 28 + 21 * q ∨ 28 + 21 * q + 21 ≤ j) → u_put V q sx sy n j = V j := fun j hj => u_put_off hD hj.1 hj.2 n h7
  rw [h9 1 (by omega)] at hK1
  exact ⟨hK1, h9 0 (by omega), fun m a b => h9 _ (by omega), fun k a b => ⟨h9 _ (by omega), fun d d0 d1 => ⟨h9 _ (by omega), h9 _ (by omega), h9 _ (by omega)⟩⟩, Or.inr ⟨h9 _ (by omega), fun m a b => h9 _ (by omega), fun k a b => h9 _ (by omega)⟩⟩
