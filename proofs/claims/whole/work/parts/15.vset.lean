abbrev vx (V : zV) (k d : Int) : Int := V (28 + 3 * (7 * k + d))
abbrev vy (V : zV) (k d : Int) : Int := V (28 + (3 * (7 * k + d) + 1))
abbrev vn (V : zV) (k : Int) : Int := V (18 + (2 * k + 1))
abbrev vc (V : zV) (k : Int) : Int := V (18 + 2 * k)
abbrev vso (V : zV) (p : Int) (d : Nat) : Prop := V (28 + (3 * (7 * p + (d : Int)) + 2)) = 1
/-- the step from dot f of the picture ahead to dot d of p -/
def vstep (V : zV) (p f d : Int) : Int := max (z_abs (vx V p d - vx V (p - 1) f)) (z_abs (vy V p d - vy V (p - 1) f))
def nval (h fx fy tx ty t : Int) : Int := max (z_abs (h * fx + t * (tx - fx))) (z_abs (h * fy + t * (ty - fy)))
def nr (h fx fy tx ty s0 : Int) : Nat → Int
  | 0 => s0
  | t + 1 => min (nr h fx fy tx ty s0 t) (nval h fx fy tx ty ((t : Int) + 1))
def vnear (V : zV) (p f1 d1 f2 d2 : Int) : Int := nr (2 * vc V p) (vx V (p - 1) f1 - vx V (p - 1) f2) (vy V (p - 1) f1 - vy V (p - 1) f2) (vx V p d1 - vx V p d2) (vy V p d1 - vy V p d2) 1000000 (2 * vc V p - 1).toNat
/-- who is there, among the first k -/
def vWl (V : zV) (k : Nat) : List Nat := (List.range k).filter (fun m => decide (V (6 + (2 * (m : Int) + 1)) = 0))
def vN (V : zV) : Nat := (vWl V (V 0).toNat).length
def vw (V : zV) (t : Nat) : Int := ((((vWl V (V 0).toNat)[t]?).getD 0 : Nat) : Int)
theorem vWl_s (V : zV) (k : Nat) : vWl V (k + 1) = vWl V k ++ (if V (6 + (2 * (k : Int) + 1)) = 0 then [k] else []) := by
  unfold vWl
  rw [List.range_succ, List.filter_append]
  congr 1
  by_cases h : V (6 + (2 * (k : Int) + 1)) = 0 <;> simp [h]
theorem vWl_len (V : zV) : ∀ k : Nat, (vWl V k).length ≤ k
  | 0 => by simp [vWl]
  | k + 1 => by
    have := vWl_len V k
    rw [vWl_s, List.length_append]
    split <;> simp <;> omega
theorem vWl_mem {V : zV} {k m : Nat} : m ∈ vWl V k ↔ m < k ∧ V (6 + (2 * (m : Int) + 1)) = 0 := by
  unfold vWl
  rw [List.mem_filter, List.mem_range]
  simp
theorem vWl_pw (V : zV) (k : Nat) : (vWl V k).Pairwise (· < ·) := List.Pairwise.filter _ List.pairwise_lt_range
theorem vw_at {V : zV} {t : Nat} (h : t < vN V) : (vWl V (V 0).toNat)[t]? = some (vw V t).toNat := by
  unfold vw
  unfold vN at h
  rw [List.getElem?_eq_getElem h]
  simp
/-- the turns: who they are, in order -/
theorem vw_in {V : zV} {t : Nat} (h : t < vN V) : (0 ≤ vw V t ∧ vw V t < V 0) ∧ V (6 + (2 * vw V t + 1)) = 0 := by
  have h0 : 0 ≤ vw V t := by unfold vw; omega
  have h1 := vWl_mem.mp (List.mem_of_getElem? (vw_at h))
  rw [show (((vw V t).toNat : Nat) : Int) = vw V t by omega] at h1
  exact ⟨⟨h0, by omega⟩, h1.2⟩
theorem vw_lt {V : zV} {t u : Nat} (h : t < u) (hu : u < vN V) : vw V t < vw V u := by
  have a1 := vw_at (V := V) (show t < vN V by omega)
  have a2 := vw_at hu
  obtain ⟨l1, e1⟩ := List.getElem?_eq_some_iff.mp a1
  obtain ⟨l2, e2⟩ := List.getElem?_eq_some_iff.mp a2
  have h1 := List.pairwise_iff_getElem.mp (vWl_pw V (V 0).toNat) t u l1 l2 h
  rw [e1, e2] at h1
  have b1 := (vw_in (V := V) (show t < vN V by omega)).1.1
  have b2 := (vw_in hu).1.1
  omega
theorem vw_inj {V : zV} {t u : Nat} (ht : t < vN V) (hu : u < vN V) (e : vw V t = vw V u) : t = u := by
  rcases Nat.lt_trichotomy t u with h | h | h
  · have := vw_lt h hu; omega
  · exact h
  · have := vw_lt h ht; omega
theorem vw_ex {V : zV} {m : Int} (h0 : 0 ≤ m) (h1 : m < V 0) (h2 : V (6 + (2 * m + 1)) = 0) : ∃ t, t < vN V ∧ vw V t = m := by
  have h3 : m.toNat ∈ vWl V (V 0).toNat := vWl_mem.mpr ⟨by omega, by rw [show ((m.toNat : Nat) : Int) = m by omega]; exact h2⟩
  obtain ⟨t, ht⟩ := List.getElem?_of_mem h3
  have hl := (List.getElem?_eq_some_iff.mp ht).1
  refine ⟨t, hl, ?_⟩
  unfold vw
  rw [ht]
  show ((m.toNat : Nat) : Int) = m
  omega
theorem vN_le {V : zV} (h : 0 ≤ V 0 ∧ V 0 ≤ 6) : vN V ≤ 6 := by
  have := vWl_len V (V 0).toNat
  unfold vN
  omega
/-- may turn t take dot d, behind the turns that took tk; gt: who has which dot in the picture ahead -/
def vok (V : zV) (p : Int) (gt : Nat → Int) (t : Nat) (tk : Nat → Int) (d : Nat) : Prop := (∀ i, i < t → tk i ≠ (d : Int)) ∧ (p = 0 ∨ (vstep V p (gt t) (d : Int) ≤ V (6 + 2 * vw V t) * vc V p ∧ ∀ i, i < t → ¬ vnear V p (gt i) (tk i) (gt t) (d : Int) < 2 * vc V p * V 2))
noncomputable def vst (V : zV) (p : Int) (gt : Nat → Int) (t : Nat) (d : Nat) : Int := if p = 0 then 0 else vstep V p (gt t) (d : Int)
def vfin (V : zV) (p : Int) (tk : Nat → Int) : Prop := ∀ d, d < (vn V p).toNat → vso V p d → ∃ i, i < vN V ∧ tk i = (d : Int)
abbrev zAcc0 : zAcc := (0, 0, 0, fun _ => 0)
noncomputable def vD (V : zV) (p : Int) (gt : Nat → Int) : zAcc := dfs (vok V p gt) (vst V p gt) (vfin V p) (vn V p).toNat (vN V) 0 (fun _ => 0) 0 0 zAcc0
/-- the setting of a picture: found, greatest, sum, the dots by turns -/
noncomputable def vS (V : zV) : Nat → zAcc
  | 0 => vD V 0 (fun _ => 0)
  | p + 1 => cIf ((vS V p).1 = 1) (vD V ((p : Int) + 1) (vS V p).2.2.2) zAcc0
theorem dfs_ind {ok : Nat → (Nat → Int) → Nat → Prop} {st : Nat → Nat → Int} {fin : (Nat → Int) → Prop} {nd N : Nat} (I : zAcc → Prop) (J : Nat → (Nat → Int) → Int → Int → Prop) (hJ : ∀ t tk g s d, J t tk g s → t < N → d < nd → ok t tk d → J (t + 1) (tkU tk t (d : Int)) (max g (st t d)) (s + st t d)) (hI : ∀ tk g s, J N tk g s → I (1, g, s, tk)) : ∀ (r t : Nat) (tk : Nat → Int) (g s : Int) (c : zAcc), t + r = N → J t tk g s → I c → I (dfs ok st fin nd r t tk g s c)
  | 0, t, tk, g, s, c, hN, hj, hc => by
    rw [dfs_0]
    by_cases e : fin tk ∧ better g s c
    · rw [cIf_t e]; exact hI tk g s (by rw [show N = t by omega]; exact hj)
    · rw [cIf_f e]; exact hc
  | r + 1, t, tk, g, s, c, hN, hj, hc => by
    rw [dfs_s]
    have key : ∀ n, n ≤ nd → I (sp_lp (fun d c => cIf (ok t tk d) (dfs ok st fin nd r (t + 1) (tkU tk t (d : Int)) (max g (st t d)) (s + st t d) c) c) n c) := by
      intro n
      induction n with
      | zero => intro _; exact hc
      | succ n ih =>
        intro hn
        have ih := ih (by omega)
        show I (cIf (ok t tk n) (dfs ok st fin nd r (t + 1) (tkU tk t (n : Int)) (max g (st t n)) (s + st t n) _) _)
        by_cases e : ok t tk n
        · rw [cIf_t e]
          exact dfs_ind I J hJ hI r (t + 1) _ _ _ _ (by omega) (hJ t tk g s n hj (by omega) (by omega) e) ih
        · rw [cIf_f e]; exact ih
    exact key nd (Nat.le_refl _)
/-- what a setting is like -/
def vgood (V : zV) (p : Int) (c : zAcc) : Prop := (c.1 = 0 ∨ c.1 = 1) ∧ (c.1 = 1 → (0 ≤ c.2.1 ∧ c.2.1 ≤ 40) ∧ (0 ≤ c.2.2.1 ∧ c.2.2.1 ≤ 240) ∧ ∀ t, t < vN V → 0 ≤ c.2.2.2 t ∧ c.2.2.2 t < vn V p)
theorem vxy_in {V : zV} (hV : v_ok V) {k d : Int} (hk : 0 ≤ k ∧ k < 5) (hd : 0 ≤ d ∧ d < 7) : (0 ≤ vx V k d ∧ vx V k d ≤ 40) ∧ 0 ≤ vy V k d ∧ vy V k d ≤ 40 := by
  have q3 := hV.2.2.2.2.2 (7 * k + d) (by omega) (by omega)
  rw [show 29 + 3 * (7 * k + d) = 28 + (3 * (7 * k + d) + 1) by omega] at q3
  exact ⟨q3.1, q3.2.1⟩
theorem vn_in {V : zV} (hV : v_ok V) {k : Int} (hk : 0 ≤ k ∧ k < 5) : (0 ≤ vc V k ∧ vc V k ≤ 16) ∧ 0 ≤ vn V k ∧ vn V k ≤ 7 := by
  have q := hV.2.2.2.1 k hk.1 hk.2
  rw [show 19 + 2 * k = 18 + (2 * k + 1) by omega] at q
  exact q
theorem z_abs_in {x b : Int} (h : -b ≤ x ∧ x ≤ b) : 0 ≤ z_abs x ∧ z_abs x ≤ b := by unfold z_abs; split <;> omega
theorem vstep_in {V : zV} (hV : v_ok V) {p f d : Int} (hp : 1 ≤ p ∧ p < 5) (hf : 0 ≤ f ∧ f < 7) (hd : 0 ≤ d ∧ d < 7) : 0 ≤ vstep V p f d ∧ vstep V p f d ≤ 40 := by
  have a := vxy_in hV (k := p) (d := d) (by omega) hd
  have b := vxy_in hV (k := p - 1) (d := f) (by omega) hf
  have e1 := z_abs_in (x := vx V p d - vx V (p - 1) f) (b := 40) (by omega)
  have e2 := z_abs_in (x := vy V p d - vy V (p - 1) f) (b := 40) (by omega)
  unfold vstep
  omega
theorem vst_in {V : zV} (hV : v_ok V) {p : Int} {gt : Nat → Int} {t d : Nat} (hp : 0 ≤ p ∧ p < 5) (hg : p ≠ 0 → 0 ≤ gt t ∧ gt t < 7) (hd : d < 7) : 0 ≤ vst V p gt t d ∧ vst V p gt t d ≤ 40 := by
  unfold vst
  split
  · omega
  · exact vstep_in hV (by omega) (hg (by omega)) (by omega)
theorem vD_good {V : zV} (hV : v_ok V) {p : Int} (hp : 0 ≤ p ∧ p < 5) {gt : Nat → Int} (hg : p ≠ 0 → ∀ t, t < vN V → 0 ≤ gt t ∧ gt t < 7) : vgood V p (vD V p gt) := by
  have hn := vn_in hV hp
  have hN := vN_le hV.1.1
  refine dfs_ind (N := vN V) (vgood V p) (fun t tk g s => (0 ≤ g ∧ g ≤ 40) ∧ (0 ≤ s ∧ s ≤ 40 * (t : Int)) ∧ ∀ i, i < t → 0 ≤ tk i ∧ tk i < vn V p) ?_ ?_ (vN V) 0 _ 0 0 zAcc0 (by omega) ⟨by omega, by omega, fun i hi => by omega⟩ ⟨Or.inl rfl, fun h => by cases h⟩
  · intro t tk g s d h ht hd _
    have hs := vst_in hV hp (gt := gt) (t := t) (d := d) (fun q => hg q t ht) (by omega)
    refine ⟨by omega, by omega, fun i hi => ?_⟩
    by_cases e : i = t
    · rw [e, tkU_s]; omega
    · rw [tkU_n e]; exact h.2.2 i (by omega)
  · intro tk g s h
    exact ⟨Or.inr rfl, fun _ => ⟨h.1, ⟨h.2.1.1, by have := h.2.1.2; show s ≤ 240; omega⟩, h.2.2⟩⟩
theorem vS_good {V : zV} (hV : v_ok V) : ∀ p : Nat, p < 5 → vgood V (p : Int) (vS V p)
  | 0, _ => vD_good hV (by omega) (fun q => absurd rfl q)
  | p + 1, hp => by
    have ih := vS_good hV p (by omega)
    unfold vS
    by_cases e : (vS V p).1 = 1
    · rw [cIf_t e]
      have h7 := (vn_in hV (k := (p : Int)) (by omega)).2
      exact vD_good hV (by omega) (fun _ t ht => by have := (ih.2 e).2.2 t ht; omega)
    · rw [cIf_f e]
      exact ⟨Or.inl rfl, fun h => by cases h⟩
theorem nval_in {h fx fy tx ty t : Int} (hh : 0 ≤ h ∧ h ≤ 32) (ht : 0 ≤ t ∧ t ≤ 32) (h1 : -40 ≤ fx ∧ fx ≤ 40) (h2 : -40 ≤ fy ∧ fy ≤ 40) (h3 : -40 ≤ tx ∧ tx ≤ 40) (h4 : -40 ≤ ty ∧ ty ≤ 40) : ((-4000 ≤ h * fx + t * (tx - fx) ∧ h * fx + t * (tx - fx) ≤ 4000) ∧ -4000 ≤ h * fy + t * (ty - fy) ∧ h * fy + t * (ty - fy) ≤ 4000) ∧ 0 ≤ nval h fx fy tx ty t ∧ nval h fx fy tx ty t ≤ 4000 := by
  have m1 := z_mul_b (a := h) (b := fx) (A := 32) (B := 40) (by omega) (by omega) (by omega) (by omega)
  have m2 := z_mul_b (a := h) (b := fy) (A := 32) (B := 40) (by omega) (by omega) (by omega) (by omega)
  have m3 := z_mul_b (a := t) (b := tx - fx) (A := 32) (B := 80) (by omega) (by omega) (by omega) (by omega)
  have m4 := z_mul_b (a := t) (b := ty - fy) (A := 32) (B := 80) (by omega) (by omega) (by omega) (by omega)
  have e1 := z_abs_in (x := h * fx + t * (tx - fx)) (b := 4000) (by omega)
  have e2 := z_abs_in (x := h * fy + t * (ty - fy)) (b := 4000) (by omega)
  unfold nval
  omega
