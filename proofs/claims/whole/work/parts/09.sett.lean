noncomputable def cIf {α : Type} (P : Prop) (x y : α) : α := @ite α P (Classical.propDecidable P) x y
theorem cIf_t {α : Type} {P : Prop} {x y : α} (h : P) : cIf P x y = x := by unfold cIf; rw [if_pos h]
theorem cIf_f {α : Type} {P : Prop} {x y : α} (h : ¬ P) : cIf P x y = y := by unfold cIf; rw [if_neg h]
abbrev zAcc : Type := Int × Int × Int × (Nat → Int)
def sp_lp {α : Type} (f : Nat → α → α) : Nat → α → α
  | 0, x => x
  | n + 1, x => f n (sp_lp f n x)
theorem sp_lp_id {α : Type} {f : Nat → α → α} {x : α} : ∀ (n : Nat), (∀ i, i < n → f i x = x) → sp_lp f n x = x
  | 0, _ => rfl
  | n + 1, h => by
    have ih := sp_lp_id n (fun i hi => h i (by omega))
    show f n (sp_lp f n x) = x
    rw [ih]
    exact h n (by omega)
theorem sp_lp_c {α : Type} {f g : Nat → α → α} {x : α} : ∀ (n : Nat), (∀ i y, i < n → f i y = g i y) → sp_lp f n x = sp_lp g n x
  | 0, _ => rfl
  | n + 1, h => by
    have ih := sp_lp_c (x := x) n (fun i y hi => h i y (by omega))
    show f n (sp_lp f n x) = g n (sp_lp g n x)
    rw [ih]
    exact h n _ (by omega)
/-- behind a place at which x stays, it stays to the end -/
theorem sp_lp_stay {α : Type} {f : Nat → α → α} {x a : α} {d : Nat} (hx : sp_lp f d a = x) : ∀ (n : Nat), (∀ i, d ≤ i → f i x = x) → sp_lp f (d + n) a = x
  | 0, _ => hx
  | n + 1, h => by
    have ih := sp_lp_stay hx n h
    show f (d + n) (sp_lp f (d + n) a) = x
    rw [ih]
    exact h (d + n) (by omega)
def better (g s : Int) (c : zAcc) : Prop := c.1 = 0 ∨ g < c.2.1 ∨ (g = c.2.1 ∧ s < c.2.2.1)
def tkU (tk : Nat → Int) (t : Nat) (d : Int) : Nat → Int := fun i => if i = t then d else tk i
theorem tkU_s (tk : Nat → Int) (t : Nat) (d : Int) : tkU tk t d t = d := if_pos rfl
theorem tkU_n {tk : Nat → Int} {t i : Nat} {d : Int} (h : i ≠ t) : tkU tk t d i = tk i := if_neg h
/-- all ways to give the turns from t on a dot, in order, the best kept -/
noncomputable def dfs (ok : Nat → (Nat → Int) → Nat → Prop) (st : Nat → Nat → Int) (fin : (Nat → Int) → Prop) (nd : Nat) : Nat → Nat → (Nat → Int) → Int → Int → zAcc → zAcc
  | 0, _, tk, g, s, c => cIf (fin tk ∧ better g s c) (1, g, s, tk) c
  | r + 1, t, tk, g, s, c => sp_lp (fun d c => cIf (ok t tk d) (dfs ok st fin nd r (t + 1) (tkU tk t (d : Int)) (max g (st t d)) (s + st t d) c) c) nd c
theorem dfs_s (ok : Nat → (Nat → Int) → Nat → Prop) (st : Nat → Nat → Int) (fin : (Nat → Int) → Prop) (nd r t : Nat) (tk : Nat → Int) (g s : Int) (c : zAcc) : dfs ok st fin nd (r + 1) t tk g s c = sp_lp (fun d c => cIf (ok t tk d) (dfs ok st fin nd r (t + 1) (tkU tk t (d : Int)) (max g (st t d)) (s + st t d) c) c) nd c := rfl
theorem dfs_0 (ok : Nat → (Nat → Int) → Nat → Prop) (st : Nat → Nat → Int) (fin : (Nat → Int) → Prop) (nd t : Nat) (tk : Nat → Int) (g s : Int) (c : zAcc) : dfs ok st fin nd 0 t tk g s c = cIf (fin tk ∧ better g s c) (1, g, s, tk) c := rfl
/-- what is no better never becomes it -/
theorem dfs_nb {ok : Nat → (Nat → Int) → Nat → Prop} {st : Nat → Nat → Int} {fin : (Nat → Int) → Prop} {nd : Nat} (hst : ∀ t d, d < nd → 0 ≤ st t d) : ∀ (r t : Nat) (tk : Nat → Int) (g s : Int) (c : zAcc), ¬ better g s c → dfs ok st fin nd r t tk g s c = c
  | 0, t, tk, g, s, c, h => by rw [dfs_0]; exact cIf_f (fun q => h q.2)
  | r + 1, t, tk, g, s, c, h => by
    rw [dfs_s]
    refine sp_lp_id nd (fun d hd => ?_)
    by_cases e : ok t tk d
    · rw [cIf_t e]
      have h0 := hst t d hd
      exact dfs_nb hst r (t + 1) _ _ _ c (fun q => h (by unfold better at q ⊢; omega))
    · exact cIf_f e
/-- how many solos among the first dots no turn ahead of t has -/
noncomputable def unf (so : Nat → Prop) (tk : Nat → Int) (t : Nat) : Nat → Nat
  | 0 => 0
  | d + 1 => unf so tk t d + cIf (so d ∧ ∀ i, i < t → tk i ≠ (d : Int)) 1 0
theorem unf_step (so : Nat → Prop) (tk : Nat → Int) (t : Nat) (x : Nat) : ∀ nd : Nat, unf so (tkU tk t (x : Int)) (t + 1) nd + cIf (x < nd ∧ so x ∧ ∀ i, i < t → tk i ≠ (x : Int)) 1 0 = unf so tk t nd
  | 0 => by rw [cIf_f (by omega)]; rfl
  | d + 1 => by
    have ih := unf_step so tk t x d
    unfold unf
    have key : (∀ i, i < t + 1 → tkU tk t (x : Int) i ≠ (d : Int)) ↔ (∀ i, i < t → tk i ≠ (d : Int)) ∧ x ≠ d := by
      constructor
      · intro h
        refine ⟨fun i hi => ?_, fun e => h t (by omega) (by rw [tkU_s, e])⟩
        have := h i (by omega)
        rwa [tkU_n (by omega)] at this
      · intro h i hi
        by_cases e : i = t
        · rw [e, tkU_s]; exact fun q => h.2 (by omega)
        · rw [tkU_n e]; exact h.1 i (by omega)
    by_cases e : x = d
    · subst e
      rw [cIf_f (P := so x ∧ ∀ i, i < t + 1 → tkU tk t (x : Int) i ≠ (x : Int)) (fun q => (key.mp q.2).2 rfl)]
      rw [cIf_f (P := x < x ∧ _) (by omega)] at ih
      by_cases e2 : so x ∧ ∀ i, i < t → tk i ≠ (x : Int)
      · rw [cIf_t (P := x < x + 1 ∧ _) ⟨by omega, e2⟩, cIf_t e2]; omega
      · rw [cIf_f (P := x < x + 1 ∧ _) (fun q => e2 q.2), cIf_f e2]; omega
    · have k1 : cIf (so d ∧ ∀ i, i < t + 1 → tkU tk t (x : Int) i ≠ (d : Int)) 1 0 = cIf (so d ∧ ∀ i, i < t → tk i ≠ (d : Int)) (1 : Nat) 0 := by
        by_cases e2 : so d ∧ ∀ i, i < t → tk i ≠ (d : Int)
        · rw [cIf_t e2, cIf_t ⟨e2.1, key.mpr ⟨e2.2, e⟩⟩]
        · rw [cIf_f e2, cIf_f (fun q => e2 ⟨q.1, (key.mp q.2).1⟩)]
      have k2 : cIf (x < d + 1 ∧ so x ∧ ∀ i, i < t → tk i ≠ (x : Int)) (1 : Nat) 0 = cIf (x < d ∧ so x ∧ ∀ i, i < t → tk i ≠ (x : Int)) 1 0 := by
        by_cases e2 : x < d ∧ so x ∧ ∀ i, i < t → tk i ≠ (x : Int)
        · rw [cIf_t e2, cIf_t ⟨by omega, e2.2⟩]
        · rw [cIf_f e2, cIf_f (fun q => e2 ⟨by omega, q.2⟩)]
      rw [k1, k2]
      omega
theorem unf_0 {so : Nat → Prop} {tk : Nat → Int} {t : Nat} : ∀ nd : Nat, unf so tk t nd = 0 ↔ ∀ d, d < nd → so d → ∃ i, i < t ∧ tk i = (d : Int)
  | 0 => ⟨fun _ d hd => by omega, fun _ => rfl⟩
  | n + 1 => by
    have ih := unf_0 (so := so) (tk := tk) (t := t) n
    unfold unf
    constructor
    · intro h d hd hs
      by_cases e : d = n
      · subst e
        have h2 : ¬ (so d ∧ ∀ i, i < t → tk i ≠ (d : Int)) := fun q => by rw [cIf_t q] at h; omega
        refine Classical.byContradiction (fun q => h2 ⟨hs, fun i hi e => q ⟨i, hi, e⟩⟩)
      · exact ih.mp (by omega) d (by omega) hs
    · intro h
      rw [cIf_f (fun q => by obtain ⟨i, hi, e⟩ := h n (by omega) q.1; exact q.2 i hi e), ih.mpr (fun d hd => h d (by omega))]
/-- too many solos are left: nothing is found -/
theorem dfs_sl {ok : Nat → (Nat → Int) → Nat → Prop} {st : Nat → Nat → Int} {fin : (Nat → Int) → Prop} {nd : Nat} {so : Nat → Prop} {N : Nat} (hf : ∀ tk, fin tk ↔ ∀ d, d < nd → so d → ∃ i, i < N ∧ tk i = (d : Int)) : ∀ (r t : Nat) (tk : Nat → Int) (g s : Int) (c : zAcc), t + r = N → r < unf so tk t nd → dfs ok st fin nd r t tk g s c = c
  | 0, t, tk, g, s, c, hN, h => by
    rw [dfs_0]
    refine cIf_f (fun q => ?_)
    have h1 := (unf_0 nd).mpr ((hf tk).mp q.1)
    rw [show N = t by omega] at h1
    omega
  | r + 1, t, tk, g, s, c, hN, h => by
    rw [dfs_s]
    refine sp_lp_id nd (fun d hd => ?_)
    by_cases e : ok t tk d
    · rw [cIf_t e]
      refine dfs_sl hf r (t + 1) _ _ _ c (by omega) ?_
      have h1 := unf_step so tk t d nd
      by_cases e2 : d < nd ∧ so d ∧ ∀ i, i < t → tk i ≠ (d : Int)
      · rw [cIf_t e2] at h1; omega
      · rw [cIf_f e2] at h1; omega
    · exact cIf_f e
/-- the same with branches left that can't win -/
noncomputable def cdfs (ok : Nat → (Nat → Int) → Nat → Prop) (st : Nat → Nat → Int) (so : Nat → Prop) (nd : Nat) : Nat → Nat → (Nat → Int) → Int → Int → zAcc → zAcc
  | 0, t, tk, g, s, c => cIf (0 < unf so tk t nd) c (1, g, s, tk)
  | r + 1, t, tk, g, s, c => cIf (r + 1 < unf so tk t nd) c (sp_lp (fun d c => cIf (ok t tk d ∧ better (max g (st t d)) (s + st t d) c) (cdfs ok st so nd r (t + 1) (tkU tk t (d : Int)) (max g (st t d)) (s + st t d) c) c) nd c)
theorem cdfs_eq {ok : Nat → (Nat → Int) → Nat → Prop} {st : Nat → Nat → Int} {fin : (Nat → Int) → Prop} {nd : Nat} {so : Nat → Prop} {N : Nat} (hst : ∀ t d, d < nd → 0 ≤ st t d) (hf : ∀ tk, fin tk ↔ ∀ d, d < nd → so d → ∃ i, i < N ∧ tk i = (d : Int)) : ∀ (r t : Nat) (tk : Nat → Int) (g s : Int) (c : zAcc), t + r = N → better g s c → cdfs ok st so nd r t tk g s c = dfs ok st fin nd r t tk g s c
  | 0, t, tk, g, s, c, hN, hb => by
    rw [dfs_0]
    unfold cdfs
    by_cases h : 0 < unf so tk t nd
    · rw [cIf_t h, cIf_f (fun q => by have h1 := (unf_0 nd).mpr ((hf tk).mp q.1); rw [show N = t by omega] at h1; omega)]
    · rw [cIf_f h, cIf_t ⟨(hf tk).mpr (by rw [show N = t by omega]; exact (unf_0 nd).mp (by omega)), hb⟩]
  | r + 1, t, tk, g, s, c, hN, hb => by
    unfold cdfs
    by_cases h : r + 1 < unf so tk t nd
    · rw [cIf_t h, dfs_sl hf (r + 1) t tk g s c hN h]
    · rw [cIf_f h, dfs_s]
      refine sp_lp_c nd (fun d y hd => ?_)
      by_cases e : ok t tk d
      · rw [cIf_t e]
        by_cases e2 : better (max g (st t d)) (s + st t d) y
        · rw [cIf_t ⟨e, e2⟩]
          exact cdfs_eq hst hf r (t + 1) _ _ _ y (by omega) e2
        · rw [cIf_f (fun q => e2 q.2), dfs_nb hst r (t + 1) _ _ _ y e2]
      · rw [cIf_f e, cIf_f (fun q => e q.1)]
