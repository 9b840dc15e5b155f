abbrev zV : Type := Int → Int
/-- what a state of the show may be: 0 marchers, 1 pictures, 2 apart, 3 speed, 4, 5 drums, 6 + 2 m bound, 7 + 2 m ill, 18 + 2 k counts, 19 + 2 k dots, 28 + 3 (7 k + d) x, y, solo -/
def v_ok (V : zV) : Prop := ((0 ≤ V 0 ∧ V 0 ≤ 6) ∧ (0 ≤ V 1 ∧ V 1 ≤ 5) ∧ (0 ≤ V 2 ∧ V 2 ≤ 3) ∧ (1 ≤ V 3 ∧ V 3 ≤ 20) ∧ (0 ≤ V 4 ∧ V 4 ≤ 40) ∧ (0 ≤ V 5 ∧ V 5 ≤ 40)) ∧ (∀ m : Int, 0 ≤ m → m < 6 → (0 ≤ V (6 + 2 * m) ∧ V (6 + 2 * m) ≤ 4) ∧ 0 ≤ V (7 + 2 * m) ∧ V (7 + 2 * m) ≤ 1) ∧ (∀ m : Int, 0 ≤ m → m < V 0 → 1 ≤ V (6 + 2 * m)) ∧ (∀ k : Int, 0 ≤ k → k < 5 → (0 ≤ V (18 + 2 * k) ∧ V (18 + 2 * k) ≤ 16) ∧ 0 ≤ V (19 + 2 * k) ∧ V (19 + 2 * k) ≤ 7) ∧ (∀ k : Int, 0 ≤ k → k < V 1 → 1 ≤ V (18 + 2 * k)) ∧ (∀ j : Int, 0 ≤ j → j < 35 → (0 ≤ V (28 + 3 * j) ∧ V (28 + 3 * j) ≤ 40) ∧ (0 ≤ V (29 + 3 * j) ∧ V (29 + 3 * j) ≤ 40) ∧ 0 ≤ V (30 + 3 * j) ∧ V (30 + 3 * j) ≤ 1)
def zModel (σ : zSt) (V : zV) : Prop := (∀ j : Int, 0 ≤ j → j < 6 → σ 81 j = V j) ∧ (∀ j : Int, 0 ≤ j → j < 12 → σ 82 j = V (6 + j)) ∧ (∀ j : Int, 0 ≤ j → j < 10 → σ 83 j = V (18 + j)) ∧ (∀ j : Int, 0 ≤ j → j < 105 → σ 84 j = V (28 + j))
/-- σ' is σ, but that the model holds V and its scratch may be another -/
def zWho (σ : zSt) : Prop := ∀ j : Int, 0 ≤ j → j < 6 → 0 ≤ σ 93 j ∧ σ 93 j < 6
def zMup (σ σ' : zSt) (V : zV) : Prop := zModel σ' V ∧ (∀ c : Nat, c < 80 ∨ c = 85 → σ' c = σ c) ∧ σ' 80 4 = σ 80 4 ∧ (zWho σ → zWho σ')
theorem zWho.of {σ σ1 : zSt} (h : zWho σ) (e : σ1 93 = σ 93) : zWho σ1 := by unfold zWho; rw [e]; exact h
theorem zMup.refl {σ : zSt} {V : zV} (h : zModel σ V) : zMup σ σ V := ⟨h, fun _ _ => rfl, rfl, id⟩
theorem z_upf_s (f : Int → Int) (j v : Int) : z_upf f j v j = v := if_pos rfl
theorem z_upf_n {f : Int → Int} {j v i : Int} (h : i ≠ j) : z_upf f j v i = f i := if_neg h
theorem zM81 {σ : zSt} {V : zV} (h : zModel σ V) {j : Int} (v : Int) (h0 : 0 ≤ j) (h1 : j < 6) : zModel (z_up σ 81 j v) (z_upf V j v) := by
  obtain ⟨a, b, c, d⟩ := h
  refine ⟨fun i h2 h3 => ?_, fun i h2 h3 => ?_, fun i h2 h3 => ?_, fun i h2 h3 => ?_⟩
  · rw [z_up_a]
    unfold z_upf
    by_cases e : i = j
    · rw [if_pos ⟨rfl, e⟩, if_pos e]
    · rw [if_neg (fun q => e q.2), if_neg e]
      exact a i h2 h3
  · rw [z_up_c (by decide), z_upf_n (by omega)]; exact b i h2 h3
  · rw [z_up_c (by decide), z_upf_n (by omega)]; exact c i h2 h3
  · rw [z_up_c (by decide), z_upf_n (by omega)]; exact d i h2 h3
theorem zM82 {σ : zSt} {V : zV} (h : zModel σ V) {j : Int} (v : Int) (h0 : 0 ≤ j) (h1 : j < 12) : zModel (z_up σ 82 j v) (z_upf V (6 + j) v) := by
  obtain ⟨a, b, c, d⟩ := h
  refine ⟨fun i h2 h3 => ?_, fun i h2 h3 => ?_, fun i h2 h3 => ?_, fun i h2 h3 => ?_⟩
  · rw [z_up_c (by decide), z_upf_n (by omega)]; exact a i h2 h3
  · rw [z_up_a]
    unfold z_upf
    by_cases e : i = j
    · rw [if_pos ⟨rfl, e⟩, if_pos (by omega)]
    · rw [if_neg (fun q => e q.2), if_neg (by omega)]
      exact b i h2 h3
  · rw [z_up_c (by decide), z_upf_n (by omega)]; exact c i h2 h3
  · rw [z_up_c (by decide), z_upf_n (by omega)]; exact d i h2 h3
theorem zM83 {σ : zSt} {V : zV} (h : zModel σ V) {j : Int} (v : Int) (h0 : 0 ≤ j) (h1 : j < 10) : zModel (z_up σ 83 j v) (z_upf V (18 + j) v) := by
  obtain ⟨a, b, c, d⟩ := h
  refine ⟨fun i h2 h3 => ?_, fun i h2 h3 => ?_, fun i h2 h3 => ?_, fun i h2 h3 => ?_⟩
  · rw [z_up_c (by decide), z_upf_n (by omega)]; exact a i h2 h3
  · rw [z_up_c (by decide), z_upf_n (by omega)]; exact b i h2 h3
  · rw [z_up_a]
    unfold z_upf
    by_cases e : i = j
    · rw [if_pos ⟨rfl, e⟩, if_pos (by omega)]
    · rw [if_neg (fun q => e q.2), if_neg (by omega)]
      exact c i h2 h3
  · rw [z_up_c (by decide), z_upf_n (by omega)]; exact d i h2 h3
theorem zM84 {σ : zSt} {V : zV} (h : zModel σ V) {j : Int} (v : Int) (h0 : 0 ≤ j) (h1 : j < 105) : zModel (z_up σ 84 j v) (z_upf V (28 + j) v) := by
  obtain ⟨a, b, c, d⟩ := h
  refine ⟨fun i h2 h3 => ?_, fun i h2 h3 => ?_, fun i h2 h3 => ?_, fun i h2 h3 => ?_⟩
  · rw [z_up_c (by decide), z_upf_n (by omega)]; exact a i h2 h3
  · rw [z_up_c (by decide), z_upf_n (by omega)]; exact b i h2 h3
  · rw [z_up_c (by decide), z_upf_n (by omega)]; exact c i h2 h3
  · rw [z_up_a]
    unfold z_upf
    by_cases e : i = j
    · rw [if_pos ⟨rfl, e⟩, if_pos (by omega)]
    · rw [if_neg (fun q => e q.2), if_neg (by omega)]
      exact d i h2 h3
theorem zMup.u81 {σ σ1 : zSt} {V : zV} (h : zMup σ σ1 V) {j : Int} (v : Int) (h0 : 0 ≤ j) (h1 : j < 6) : zMup σ (z_up σ1 81 j v) (z_upf V j v) := ⟨zM81 h.1 v h0 h1, fun c hc => by rw [z_up_c (by omega)]; exact h.2.1 c hc, by rw [z_up_c (by decide)]; exact h.2.2.1, fun q => (h.2.2.2 q).of (z_up_c (by decide))⟩
theorem zMup.u82 {σ σ1 : zSt} {V : zV} (h : zMup σ σ1 V) {j : Int} (v : Int) (h0 : 0 ≤ j) (h1 : j < 12) : zMup σ (z_up σ1 82 j v) (z_upf V (6 + j) v) := ⟨zM82 h.1 v h0 h1, fun c hc => by rw [z_up_c (by omega)]; exact h.2.1 c hc, by rw [z_up_c (by decide)]; exact h.2.2.1, fun q => (h.2.2.2 q).of (z_up_c (by decide))⟩
theorem zMup.u83 {σ σ1 : zSt} {V : zV} (h : zMup σ σ1 V) {j : Int} (v : Int) (h0 : 0 ≤ j) (h1 : j < 10) : zMup σ (z_up σ1 83 j v) (z_upf V (18 + j) v) := ⟨zM83 h.1 v h0 h1, fun c hc => by rw [z_up_c (by omega)]; exact h.2.1 c hc, by rw [z_up_c (by decide)]; exact h.2.2.1, fun q => (h.2.2.2 q).of (z_up_c (by decide))⟩
theorem zMup.u84 {σ σ1 : zSt} {V : zV} (h : zMup σ σ1 V) {j : Int} (v : Int) (h0 : 0 ≤ j) (h1 : j < 105) : zMup σ (z_up σ1 84 j v) (z_upf V (28 + j) v) := ⟨zM84 h.1 v h0 h1, fun c hc => by rw [z_up_c (by omega)]; exact h.2.1 c hc, by rw [z_up_c (by decide)]; exact h.2.2.1, fun q => (h.2.2.2 q).of (z_up_c (by decide))⟩
theorem zModel.of {σ σ1 : zSt} {V : zV} (h : zModel σ V) (e1 : σ1 81 = σ 81) (e2 : σ1 82 = σ 82) (e3 : σ1 83 = σ 83) (e4 : σ1 84 = σ 84) : zModel σ1 V := by
  unfold zModel
  rw [e1, e2, e3, e4]
  exact h
theorem zMup.us {σ σ1 : zSt} {V : zV} (h : zMup σ σ1 V) {c : Nat} (j v : Int) (hc : 86 ≤ c ∧ c ≠ 93) : zMup σ (z_up σ1 c j v) V := ⟨h.1.of (z_up_c (by omega)) (z_up_c (by omega)) (z_up_c (by omega)) (z_up_c (by omega)), fun d hd => by rw [z_up_c (by omega)]; exact h.2.1 d hd, by rw [z_up_c (by omega)]; exact h.2.2.1, fun q => (h.2.2.2 q).of (z_up_c (by omega))⟩
theorem zMup.u80 {σ σ1 : zSt} {V : zV} (h : zMup σ σ1 V) {j : Int} (v : Int) (hj : j ≠ 4) : zMup σ (z_up σ1 80 j v) V := ⟨h.1.of (z_up_c (by decide)) (z_up_c (by decide)) (z_up_c (by decide)) (z_up_c (by decide)), fun d hd => by rw [z_up_c (by omega)]; exact h.2.1 d hd, by rw [z_up_j (by omega)]; exact h.2.2.1, fun q => (h.2.2.2 q).of (z_up_c (by decide))⟩
theorem zMup.trans {σ σ1 σ2 : zSt} {V V' : zV} (h : zMup σ σ1 V) (h2 : zMup σ1 σ2 V') : zMup σ σ2 V' := ⟨h2.1, fun c hc => (h2.2.1 c hc).trans (h.2.1 c hc), h2.2.2.1.trans h.2.2.1, fun q => h2.2.2.2 (h.2.2.2 q)⟩
/-- a refusal changes nothing -/
def z_if (z : Int) (V V' : zV) : zV := if z < 0 then V else V'
theorem zIf_n {z : Int} {V V' : zV} (h : z < 0) : z_if z V V' = V := if_pos h
theorem zIf_p {z : Int} {V V' : zV} (h : 0 ≤ z) : z_if z V V' = V' := if_neg (by omega)
theorem zMup.eq {σ σ1 : zSt} {V V' : zV} (h : zMup σ σ1 V) (e : V = V') : zMup σ σ1 V' := e ▸ h
/-! the answers and the states behind them -/
def s_marcher (V : zV) (b : Int) : Int := if 1 ≤ b ∧ b ≤ 4 then (if V 0 = 6 then -2 else V 0) else -1
def u_marcher (V : zV) (b : Int) : zV := z_upf (z_upf (z_upf V (6 + 2 * V 0) b) (6 + (2 * V 0 + 1)) 0) 0 (V 0 + 1)
def s_ill (V : zV) (m i : Int) : Int := if 0 ≤ m ∧ m < V 0 then (if V (6 + (2 * m + 1)) = i then 0 else 1) else -1
def u_ill (V : zV) (m i : Int) : zV := z_upf V (6 + (2 * m + 1)) i
def s_bound (V : zV) (m v : Int) : Int := if (0 ≤ m ∧ m < V 0) ∧ 1 ≤ v ∧ v ≤ 4 then V (6 + 2 * m) else -1
def u_bound (V : zV) (m v : Int) : zV := z_upf V (6 + 2 * m) v
def s_picture (V : zV) (c : Int) : Int := if 1 ≤ c ∧ c ≤ 16 then (if V 1 = 5 then -2 else V 1) else -1
def u_picture (V : zV) (c : Int) : zV := z_upf (z_upf (z_upf V (18 + 2 * V 1) c) (18 + (2 * V 1 + 1)) 0) 1 (V 1 + 1)
def s_counts (V : zV) (k v : Int) : Int := if (0 ≤ k ∧ k < V 1) ∧ 1 ≤ v ∧ v ≤ 16 then V (18 + 2 * k) else -1
def u_counts (V : zV) (k v : Int) : zV := z_upf V (18 + 2 * k) v
def s_solo (V : zV) (k d i : Int) : Int := if (0 ≤ k ∧ k < V 1) ∧ 0 ≤ d ∧ d < V (18 + (2 * k + 1)) then (if V (28 + (3 * (7 * k + d) + 2)) = i then 0 else 1) else -1
def u_solo (V : zV) (k d i : Int) : zV := z_upf V (28 + (3 * (7 * k + d) + 2)) i
def s_scrub (V : zV) (k : Int) : Int := if 0 ≤ k ∧ k < V 1 then (if V (18 + (2 * k + 1)) = 0 then -3 else V (18 + (2 * k + 1)) - 1) else -1
def u_scrub (V : zV) (k : Int) : zV := z_upf V (18 + (2 * k + 1)) (V (18 + (2 * k + 1)) - 1)
def s_rule (V : zV) (w v : Int) : Int := if (w = 0 ∧ 0 ≤ v ∧ v ≤ 3) ∨ (w = 1 ∧ 1 ≤ v ∧ v ≤ 20) then V (2 + w) else -1
def u_rule (V : zV) (w v : Int) : zV := z_upf V (2 + w) v
def s_drums (x y : Int) : Int := if (0 ≤ x ∧ x ≤ 40) ∧ 0 ≤ y ∧ y ≤ 40 then 1 else -4
def u_drums (V : zV) (x y : Int) : zV := z_upf (z_upf V 4 x) 5 y
def s_dot (V : zV) (k d w : Int) : Int := if ((0 ≤ k ∧ k < V 1) ∧ 0 ≤ d ∧ d < V (18 + (2 * k + 1))) ∧ 0 ≤ w ∧ w ≤ 2 then V (28 + (3 * (7 * k + d) + w)) else -1
