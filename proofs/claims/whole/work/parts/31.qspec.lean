def vt (V : zV) (m : Int) : Nat := (vWl V m.toNat).length
theorem vWl_app (V : zV) (j : Nat) : ∀ i : Nat, ∃ r, vWl V (j + i) = vWl V j ++ r
  | 0 => ⟨[], by simp⟩
  | i + 1 => by
    obtain ⟨r, hr⟩ := vWl_app V j i
    rw [show j + (i + 1) = j + i + 1 by omega, vWl_s, hr, List.append_assoc]
    exact ⟨_, rfl⟩
theorem vt_ok {V : zV} {m : Int} (h0 : 0 ≤ m) (h1 : m < V 0) (h2 : V (6 + (2 * m + 1)) = 0) : vt V m < vN V ∧ vw V (vt V m) = m := by
  obtain ⟨r, hr⟩ := vWl_app V (m.toNat + 1) ((V 0).toNat - (m.toNat + 1))
  rw [show m.toNat + 1 + ((V 0).toNat - (m.toNat + 1)) = (V 0).toNat by omega, vWl_s, show ((m.toNat : Nat) : Int) = m by omega, if_pos h2] at hr
  have hl : vt V m < vN V := by
    unfold vN vt
    rw [hr]
    simp
  refine ⟨hl, ?_⟩
  unfold vw
  rw [hr]
  unfold vt
  simp
  omega
/-- the dot of marcher m in picture k -/
noncomputable def sd (V : zV) (k m : Int) : Int := (vS V k.toNat).2.2.2 (vt V m)
noncomputable abbrev vfd (V : zV) (k : Int) : Int := (vS V k.toNat).1
theorem sd_in {V : zV} (hV : v_ok V) {k m : Int} (hk : 0 ≤ k ∧ k < 5) (hf : vfd V k = 1) (h0 : 0 ≤ m) (h1 : m < V 0) (h2 : V (6 + (2 * m + 1)) = 0) : 0 ≤ sd V k m ∧ sd V k m < vn V k ∧ sd V k m < 7 := by
  have h := (vS_good hV k.toNat (by omega)).2 hf
  have h3 := h.2.2 (vt V m) (vt_ok h0 h1 h2).1
  rw [show ((k.toNat : Nat) : Int) = k by omega] at h3
  have h4 := vn_in hV (k := k) hk
  unfold sd
  omega
theorem vfd_01 {V : zV} (hV : v_ok V) {k : Int} (hk : 0 ≤ k ∧ k < 5) : vfd V k = 0 ∨ vfd V k = 1 := (vS_good hV k.toNat (by omega)).1
/-- a setting stands on the one ahead -/
theorem vfd_pred {V : zV} {k : Int} (hk : 1 ≤ k) (h : vfd V k = 1) : vfd V (k - 1) = 1 := by
  obtain ⟨n, hn⟩ : ∃ n : Nat, k.toNat = n + 1 := ⟨k.toNat - 1, by omega⟩
  unfold vfd at h ⊢
  rw [hn] at h
  rw [show (k - 1).toNat = n by omega]
  refine Classical.byContradiction (fun q => ?_)
  have : vS V (n + 1) = zAcc0 := by
    show cIf ((vS V n).1 = 1) _ zAcc0 = zAcc0
    rw [cIf_f q]
  rw [this] at h
  exact absurd h (by decide)
noncomputable def s_set (V : zV) (k m : Int) : Int := if (0 ≤ k ∧ k < V 1) ∧ 0 ≤ m ∧ m < V 0 then (if V (6 + (2 * m + 1)) = 1 then -5 else if vfd V k = 1 then sd V k m else -3) else -1
noncomputable def s_steps (V : zV) (k w : Int) : Int := if (0 ≤ k ∧ k < V 1) ∧ 0 ≤ w ∧ w ≤ 2 then (if vfd V k = 1 then (if w = 0 then (vS V k.toNat).2.1 else if w = 1 then (vS V k.toNat).2.2.1 else vn V k - (vN V : Int)) else -3) else -1
noncomputable def s_late (V : zV) (k m : Int) : Int := if (0 ≤ k ∧ k < V 1) ∧ 0 ≤ m ∧ m < V 0 then (if V (6 + (2 * m + 1)) = 1 then -5 else if vfd V k = 1 then (z_abs (vx V k (sd V k m) - V 4) + z_abs (vy V k (sd V k m) - V 5)) / V 3 else -3) else -1
noncomputable def s_closest (V : zV) (k m o : Int) : Int := if ((0 ≤ k ∧ k < V 1) ∧ k ≠ 0) ∧ (0 ≤ m ∧ m < V 0) ∧ (0 ≤ o ∧ o < V 0) ∧ m ≠ o then (if V (6 + (2 * m + 1)) = 1 ∨ V (6 + (2 * o + 1)) = 1 then -5 else if vfd V k = 1 then vnear V k (sd V (k - 1) m) (sd V k m) (sd V (k - 1) o) (sd V k o) else -3) else -1
noncomputable def wA (V : zV) (k m w : Int) : Int := if w < 2 then vx V (k - 1) (sd V (k - 1) m) else vy V (k - 1) (sd V (k - 1) m)
noncomputable def wB (V : zV) (k m w : Int) : Int := if w < 2 then vx V k (sd V k m) else vy V k (sd V k m)
noncomputable def wUp (V : zV) (k m h w : Int) : Int := 2 * vc V k * wA V k m w + h * (wB V k m w - wA V k m w)
noncomputable def s_way (V : zV) (k m h w : Int) : Int := if ((0 ≤ k ∧ k < V 1) ∧ k ≠ 0) ∧ (0 ≤ m ∧ m < V 0) ∧ (0 ≤ h ∧ h ≤ 2 * vc V k) ∧ 0 ≤ w ∧ w ≤ 3 then (if V (6 + (2 * m + 1)) = 1 then -5 else if vfd V k = 1 then (if w % 2 = 0 then wUp V k m h w / (Nat.gcd (wUp V k m h w).toNat (2 * vc V k).toNat : Int) else 2 * vc V k / (Nat.gcd (wUp V k m h w).toNat (2 * vc V k).toNat : Int)) else -3) else -1
/-- how many of the first n pictures have a setting -/
noncomputable def v_rdy (V : zV) : Nat → Int
  | 0 => 0
  | n + 1 => v_rdy V n + (vS V n).1
noncomputable def v_sts (V : zV) : Nat → Int
  | 0 => 0
  | n + 1 => v_sts V n + (if (vS V n).1 = 1 then (vS V n).2.2.1 else 0)
def v_dts (V : zV) : Nat → Int
  | 0 => 0
  | n + 1 => v_dts V n + vn V (n : Int)
noncomputable def v_sls (V : zV) : Nat → Int
  | 0 => 0
  | n + 1 => v_sls V n + ((unf (vso V (n : Int)) (fun _ => 0) 0 (vn V (n : Int)).toNat : Nat) : Int)
noncomputable def s_many (V : zV) (w : Int) : Int := if w = 0 then V 0 else if w = 1 then (vN V : Int) else if w = 2 then V 1 else if w = 3 then v_dts V (V 1).toNat else if w = 4 then v_sls V (V 1).toNat else if w = 5 then v_sts V (V 1).toNat else -1
/-- the settings that there are come first -/
theorem v_rdy_all {V : zV} : ∀ n : Nat, (∀ i, i < n → (vS V i).1 = 1) → v_rdy V n = (n : Int)
  | 0, _ => rfl
  | n + 1, h => by
    unfold v_rdy
    rw [v_rdy_all n (fun i hi => h i (by omega)), h n (by omega)]
    omega
theorem vS_none {V : zV} (hV : v_ok V) {n : Nat} (h : (vS V n).1 ≠ 1) : ∀ i : Nat, (vS V (n + 1 + i)).1 = 0
  | 0 => by
    have : vS V (n + 1) = zAcc0 := by
      show cIf ((vS V n).1 = 1) _ zAcc0 = zAcc0
      rw [cIf_f h]
    show (vS V (n + 1)).1 = 0
    rw [this]
  | i + 1 => by
    have ih := vS_none hV h i
    have : vS V (n + 1 + i + 1) = zAcc0 := by
      show cIf ((vS V (n + 1 + i)).1 = 1) _ zAcc0 = zAcc0
      rw [cIf_f (by omega)]
    show (vS V (n + 1 + i + 1)).1 = 0
    rw [this]
theorem v_rdy_end {V : zV} (hV : v_ok V) {n : Nat} (h : (vS V n).1 = 0) : ∀ i : Nat, v_rdy V (n + i) = v_rdy V n
  | 0 => rfl
  | i + 1 => by
    have ih := v_rdy_end hV h i
    show v_rdy V (n + i) + (vS V (n + i)).1 = v_rdy V n
    rw [ih]
    cases i with
    | zero => show _ + (vS V n).1 = _; rw [h]; omega
    | succ j =>
      have := vS_none hV (n := n) (by omega) j
      rw [show n + (j + 1) = n + 1 + j by omega, this]
      omega
