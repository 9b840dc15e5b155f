def zShow (σ : zSt) (b : Nat) (V : zV) : Prop := (σ b 2 = V 0 ∧ σ b 4 = V 1 ∧ σ b 5 = V 2 ∧ σ b 6 = V 3 ∧ σ b 7 = V 4 ∧ σ b 8 = V 5) ∧ (∀ m : Int, 0 ≤ m → m < 6 → σ (b + 1) m = V (6 + 2 * m) ∧ σ (b + 2) m = V (6 + (2 * m + 1))) ∧ (∀ k : Nat, k < 5 → σ (b + 4 + 4 * k) 3 = V (18 + (2 * (k : Int) + 1)) ∧ ((k : Int) < V 1 → σ (b + 4 + 4 * k) 4 = V (18 + 2 * (k : Int))) ∧ ∀ d : Int, 0 ≤ d → d < 7 → σ (b + 4 + 4 * k + 1) d = V (28 + 3 * (7 * (k : Int) + d)) ∧ σ (b + 4 + 4 * k + 2) d = V (28 + (3 * (7 * (k : Int) + d) + 1)) ∧ σ (b + 4 + 4 * k + 3) d = V (28 + (3 * (7 * (k : Int) + d) + 2)))
theorem zS_f2 {σ : zSt} {b : Nat} {V : zV} (hb : b = 1 ∨ b = 25) (h : zShow σ b V) (v : Int)  : zShow (z_up σ b 2 v) b (z_upf V 0 v) := by
  obtain ⟨⟨f0, f1, f2, f3, f4, f5⟩, hm, hk⟩ := h
  refine ⟨⟨?_, ?_, ?_, ?_, ?_, ?_⟩, fun m m0 m1 => ?_, fun k k1 => ?_⟩
  · rw [z_up_a]; unfold z_upf; split <;> split <;> omega
  · rw [z_up_a]; unfold z_upf; split <;> split <;> omega
  · rw [z_up_a]; unfold z_upf; split <;> split <;> omega
  · rw [z_up_a]; unfold z_upf; split <;> split <;> omega
  · rw [z_up_a]; unfold z_upf; split <;> split <;> omega
  · rw [z_up_a]; unfold z_upf; split <;> split <;> omega
  · have a1 := hm m m0 m1
    constructor
    · rw [z_up_a]; unfold z_upf; split <;> split <;> omega
    · rw [z_up_a]; unfold z_upf; split <;> split <;> omega
  · obtain ⟨a3, a4, a5⟩ := hk k k1
    refine ⟨?_, fun kl => ?_, fun d d0 d1 => ?_⟩
    · rw [z_up_a]; unfold z_upf; split <;> split <;> omega
    · have kl2 : (k : Int) < V 1 := by unfold z_upf at kl; split at kl <;> omega
      have a6 := a4 kl2
      rw [z_up_a]; unfold z_upf; split <;> split <;> omega
    · have a6 := a5 d d0 d1
      refine ⟨?_, ?_, ?_⟩
      · rw [z_up_a]; unfold z_upf; split <;> split <;> omega
      · rw [z_up_a]; unfold z_upf; split <;> split <;> omega
      · rw [z_up_a]; unfold z_upf; split <;> split <;> omega
theorem zS_f5 {σ : zSt} {b : Nat} {V : zV} (hb : b = 1 ∨ b = 25) (h : zShow σ b V) (v : Int)  : zShow (z_up σ b 5 v) b (z_upf V 2 v) := by
  obtain ⟨⟨f0, f1, f2, f3, f4, f5⟩, hm, hk⟩ := h
  refine ⟨⟨?_, ?_, ?_, ?_, ?_, ?_⟩, fun m m0 m1 => ?_, fun k k1 => ?_⟩
  · rw [z_up_a]; unfold z_upf; split <;> split <;> omega
  · rw [z_up_a]; unfold z_upf; split <;> split <;> omega
  · rw [z_up_a]; unfold z_upf; split <;> split <;> omega
  · rw [z_up_a]; unfold z_upf; split <;> split <;> omega
  · rw [z_up_a]; unfold z_upf; split <;> split <;> omega
  · rw [z_up_a]; unfold z_upf; split <;> split <;> omega
  · have a1 := hm m m0 m1
    constructor
    · rw [z_up_a]; unfold z_upf; split <;> split <;> omega
    · rw [z_up_a]; unfold z_upf; split <;> split <;> omega
  · obtain ⟨a3, a4, a5⟩ := hk k k1
    refine ⟨?_, fun kl => ?_, fun d d0 d1 => ?_⟩
    · rw [z_up_a]; unfold z_upf; split <;> split <;> omega
    · have kl2 : (k : Int) < V 1 := by unfold z_upf at kl; split at kl <;> omega
      have a6 := a4 kl2
      rw [z_up_a]; unfold z_upf; split <;> split <;> omega
    · have a6 := a5 d d0 d1
      refine ⟨?_, ?_, ?_⟩
      · rw [z_up_a]; unfold z_upf; split <;> split <;> omega
      · rw [z_up_a]; unfold z_upf; split <;> split <;> omega
      · rw [z_up_a]; unfold z_upf; split <;> split <;> omega
theorem zS_f6 {σ : zSt} {b : Nat} {V : zV} (hb : b = 1 ∨ b = 25) (h : zShow σ b V) (v : Int)  : zShow (z_up σ b 6 v) b (z_upf V 3 v) := by
  obtain ⟨⟨f0, f1, f2, f3, f4, f5⟩, hm, hk⟩ := h
  refine ⟨⟨?_, ?_, ?_, ?_, ?_, ?_⟩, fun m m0 m1 => ?_, fun k k1 => ?_⟩
  · rw [z_up_a]; unfold z_upf; split <;> split <;> omega
  · rw [z_up_a]; unfold z_upf; split <;> split <;> omega
  · rw [z_up_a]; unfold z_upf; split <;> split <;> omega
  · rw [z_up_a]; unfold z_upf; split <;> split <;> omega
  · rw [z_up_a]; unfold z_upf; split <;> split <;> omega
  · rw [z_up_a]; unfold z_upf; split <;> split <;> omega
  · have a1 := hm m m0 m1
    constructor
    · rw [z_up_a]; unfold z_upf; split <;> split <;> omega
    · rw [z_up_a]; unfold z_upf; split <;> split <;> omega
  · obtain ⟨a3, a4, a5⟩ := hk k k1
    refine ⟨?_, fun kl => ?_, fun d d0 d1 => ?_⟩
    · rw [z_up_a]; unfold z_upf; split <;> split <;> omega
    · have kl2 : (k : Int) < V 1 := by unfold z_upf at kl; split at kl <;> omega
      have a6 := a4 kl2
      rw [z_up_a]; unfold z_upf; split <;> split <;> omega
    · have a6 := a5 d d0 d1
      refine ⟨?_, ?_, ?_⟩
      · rw [z_up_a]; unfold z_upf; split <;> split <;> omega
      · rw [z_up_a]; unfold z_upf; split <;> split <;> omega
      · rw [z_up_a]; unfold z_upf; split <;> split <;> omega
theorem zS_f7 {σ : zSt} {b : Nat} {V : zV} (hb : b = 1 ∨ b = 25) (h : zShow σ b V) (v : Int)  : zShow (z_up σ b 7 v) b (z_upf V 4 v) := by
  obtain ⟨⟨f0, f1, f2, f3, f4, f5⟩, hm, hk⟩ := h
  refine ⟨⟨?_, ?_, ?_, ?_, ?_, ?_⟩, fun m m0 m1 => ?_, fun k k1 => ?_⟩
  · rw [z_up_a]; unfold z_upf; split <;> split <;> omega
  · rw [z_up_a]; unfold z_upf; split <;> split <;> omega
  · rw [z_up_a]; unfold z_upf; split <;> split <;> omega
  · rw [z_up_a]; unfold z_upf; split <;> split <;> omega
  · rw [z_up_a]; unfold z_upf; split <;> split <;> omega
  · rw [z_up_a]; unfold z_upf; split <;> split <;> omega
  · have a1 := hm m m0 m1
    constructor
    · rw [z_up_a]; unfold z_upf; split <;> split <;> omega
    · rw [z_up_a]; unfold z_upf; split <;> split <;> omega
  · obtain ⟨a3, a4, a5⟩ := hk k k1
    refine ⟨?_, fun kl => ?_, fun d d0 d1 => ?_⟩
    · rw [z_up_a]; unfold z_upf; split <;> split <;> omega
    · have kl2 : (k : Int) < V 1 := by unfold z_upf at kl; split at kl <;> omega
      have a6 := a4 kl2
      rw [z_up_a]; unfold z_upf; split <;> split <;> omega
    · have a6 := a5 d d0 d1
      refine ⟨?_, ?_, ?_⟩
      · rw [z_up_a]; unfold z_upf; split <;> split <;> omega
      · rw [z_up_a]; unfold z_upf; split <;> split <;> omega
      · rw [z_up_a]; unfold z_upf; split <;> split <;> omega
theorem zS_f8 {σ : zSt} {b : Nat} {V : zV} (hb : b = 1 ∨ b = 25) (h : zShow σ b V) (v : Int)  : zShow (z_up σ b 8 v) b (z_upf V 5 v) := by
  obtain ⟨⟨f0, f1, f2, f3, f4, f5⟩, hm, hk⟩ := h
  refine ⟨⟨?_, ?_, ?_, ?_, ?_, ?_⟩, fun m m0 m1 => ?_, fun k k1 => ?_⟩
  · rw [z_up_a]; unfold z_upf; split <;> split <;> omega
  · rw [z_up_a]; unfold z_upf; split <;> split <;> omega
  · rw [z_up_a]; unfold z_upf; split <;> split <;> omega
  · rw [z_up_a]; unfold z_upf; split <;> split <;> omega
  · rw [z_up_a]; unfold z_upf; split <;> split <;> omega
  · rw [z_up_a]; unfold z_upf; split <;> split <;> omega
  · have a1 := hm m m0 m1
    constructor
    · rw [z_up_a]; unfold z_upf; split <;> split <;> omega
    · rw [z_up_a]; unfold z_upf; split <;> split <;> omega
  · obtain ⟨a3, a4, a5⟩ := hk k k1
    refine ⟨?_, fun kl => ?_, fun d d0 d1 => ?_⟩
    · rw [z_up_a]; unfold z_upf; split <;> split <;> omega
    · have kl2 : (k : Int) < V 1 := by unfold z_upf at kl; split at kl <;> omega
      have a6 := a4 kl2
      rw [z_up_a]; unfold z_upf; split <;> split <;> omega
    · have a6 := a5 d d0 d1
      refine ⟨?_, ?_, ?_⟩
      · rw [z_up_a]; unfold z_upf; split <;> split <;> omega
      · rw [z_up_a]; unfold z_upf; split <;> split <;> omega
      · rw [z_up_a]; unfold z_upf; split <;> split <;> omega
theorem zS_f4 {σ : zSt} {b : Nat} {V : zV} (hb : b = 1 ∨ b = 25) (h : zShow σ b V) (v : Int) (hc : ∀ k : Nat, k < 5 → (k : Int) < v → σ (b + 4 + 4 * k) 4 = V (18 + 2 * (k : Int))) : zShow (z_up σ b 4 v) b (z_upf V 1 v) := by
  obtain ⟨⟨f0, f1, f2, f3, f4, f5⟩, hm, hk⟩ := h
  refine ⟨⟨?_, ?_, ?_, ?_, ?_, ?_⟩, fun m m0 m1 => ?_, fun k k1 => ?_⟩
  · rw [z_up_a]; unfold z_upf; split <;> split <;> omega
  · rw [z_up_a]; unfold z_upf; split <;> split <;> omega
  · rw [z_up_a]; unfold z_upf; split <;> split <;> omega
  · rw [z_up_a]; unfold z_upf; split <;> split <;> omega
  · rw [z_up_a]; unfold z_upf; split <;> split <;> omega
  · rw [z_up_a]; unfold z_upf; split <;> split <;> omega
  · have a1 := hm m m0 m1
    constructor
    · rw [z_up_a]; unfold z_upf; split <;> split <;> omega
    · rw [z_up_a]; unfold z_upf; split <;> split <;> omega
  · obtain ⟨a3, a4, a5⟩ := hk k k1
    refine ⟨?_, fun kl => ?_, fun d d0 d1 => ?_⟩
    · rw [z_up_a]; unfold z_upf; split <;> split <;> omega
    · have a6 := hc k k1 (by unfold z_upf at kl; split at kl <;> omega)
      skip
      rw [z_up_a]; unfold z_upf; split <;> split <;> omega
    · have a6 := a5 d d0 d1
      refine ⟨?_, ?_, ?_⟩
      · rw [z_up_a]; unfold z_upf; split <;> split <;> omega
      · rw [z_up_a]; unfold z_upf; split <;> split <;> omega
      · rw [z_up_a]; unfold z_upf; split <;> split <;> omega
theorem zS_bd {σ : zSt} {b : Nat} {V : zV} (hb : b = 1 ∨ b = 25) (h : zShow σ b V) {n : Int} (v : Int) (n0 : 0 ≤ n) (n1 : n < 6) : zShow (z_up σ (b + 1) n v) b (z_upf V (6 + 2 * n) v) := by
  obtain ⟨⟨f0, f1, f2, f3, f4, f5⟩, hm, hk⟩ := h
  refine ⟨⟨?_, ?_, ?_, ?_, ?_, ?_⟩, fun m m0 m1 => ?_, fun k k1 => ?_⟩
  · rw [z_up_a]; unfold z_upf; split <;> split <;> omega
  · rw [z_up_a]; unfold z_upf; split <;> split <;> omega
  · rw [z_up_a]; unfold z_upf; split <;> split <;> omega
  · rw [z_up_a]; unfold z_upf; split <;> split <;> omega
  · rw [z_up_a]; unfold z_upf; split <;> split <;> omega
  · rw [z_up_a]; unfold z_upf; split <;> split <;> omega
  · have a1 := hm m m0 m1
    constructor
    · rw [z_up_a]; unfold z_upf; split <;> split <;> omega
    · rw [z_up_a]; unfold z_upf; split <;> split <;> omega
  · obtain ⟨a3, a4, a5⟩ := hk k k1
    refine ⟨?_, fun kl => ?_, fun d d0 d1 => ?_⟩
    · rw [z_up_a]; unfold z_upf; split <;> split <;> omega
    · have kl2 : (k : Int) < V 1 := by unfold z_upf at kl; split at kl <;> omega
      have a6 := a4 kl2
      rw [z_up_a]; unfold z_upf; split <;> split <;> omega
    · have a6 := a5 d d0 d1
      refine ⟨?_, ?_, ?_⟩
      · rw [z_up_a]; unfold z_upf; split <;> split <;> omega
      · rw [z_up_a]; unfold z_upf; split <;> split <;> omega
      · rw [z_up_a]; unfold z_upf; split <;> split <;> omega
theorem zS_il {σ : zSt} {b : Nat} {V : zV} (hb : b = 1 ∨ b = 25) (h : zShow σ b V) {n : Int} (v : Int) (n0 : 0 ≤ n) (n1 : n < 6) : zShow (z_up σ (b + 2) n v) b (z_upf V (6 + (2 * n + 1)) v) := by
  obtain ⟨⟨f0, f1, f2, f3, f4, f5⟩, hm, hk⟩ := h
  refine ⟨⟨?_, ?_, ?_, ?_, ?_, ?_⟩, fun m m0 m1 => ?_, fun k k1 => ?_⟩
  · rw [z_up_a]; unfold z_upf; split <;> split <;> omega
  · rw [z_up_a]; unfold z_upf; split <;> split <;> omega
  · rw [z_up_a]; unfold z_upf; split <;> split <;> omega
  · rw [z_up_a]; unfold z_upf; split <;> split <;> omega
  · rw [z_up_a]; unfold z_upf; split <;> split <;> omega
  · rw [z_up_a]; unfold z_upf; split <;> split <;> omega
  · have a1 := hm m m0 m1
    constructor
    · rw [z_up_a]; unfold z_upf; split <;> split <;> omega
    · rw [z_up_a]; unfold z_upf; split <;> split <;> omega
  · obtain ⟨a3, a4, a5⟩ := hk k k1
    refine ⟨?_, fun kl => ?_, fun d d0 d1 => ?_⟩
    · rw [z_up_a]; unfold z_upf; split <;> split <;> omega
    · have kl2 : (k : Int) < V 1 := by unfold z_upf at kl; split at kl <;> omega
      have a6 := a4 kl2
      rw [z_up_a]; unfold z_upf; split <;> split <;> omega
    · have a6 := a5 d d0 d1
      refine ⟨?_, ?_, ?_⟩
      · rw [z_up_a]; unfold z_upf; split <;> split <;> omega
      · rw [z_up_a]; unfold z_upf; split <;> split <;> omega
      · rw [z_up_a]; unfold z_upf; split <;> split <;> omega
theorem zS_pd {σ : zSt} {b : Nat} {V : zV} (hb : b = 1 ∨ b = 25) (h : zShow σ b V) {K : Nat} (v : Int) (K1 : K < 5) : zShow (z_up σ (b + 4 + 4 * K) 3 v) b (z_upf V (18 + (2 * (K : Int) + 1)) v) := by
  obtain ⟨⟨f0, f1, f2, f3, f4, f5⟩, hm, hk⟩ := h
  refine ⟨⟨?_, ?_, ?_, ?_, ?_, ?_⟩, fun m m0 m1 => ?_, fun k k1 => ?_⟩
  · rw [z_up_a]; unfold z_upf; split <;> split <;> omega
  · rw [z_up_a]; unfold z_upf; split <;> split <;> omega
  · rw [z_up_a]; unfold z_upf; split <;> split <;> omega
  · rw [z_up_a]; unfold z_upf; split <;> split <;> omega
  · rw [z_up_a]; unfold z_upf; split <;> split <;> omega
  · rw [z_up_a]; unfold z_upf; split <;> split <;> omega
  · have a1 := hm m m0 m1
    constructor
    · rw [z_up_a]; unfold z_upf; split <;> split <;> omega
    · rw [z_up_a]; unfold z_upf; split <;> split <;> omega
  · obtain ⟨a3, a4, a5⟩ := hk k k1
    refine ⟨?_, fun kl => ?_, fun d d0 d1 => ?_⟩
    · rw [z_up_a]; unfold z_upf; split <;> split <;> omega
    · have kl2 : (k : Int) < V 1 := by unfold z_upf at kl; split at kl <;> omega
      have a6 := a4 kl2
      rw [z_up_a]; unfold z_upf; split <;> split <;> omega
    · have a6 := a5 d d0 d1
      refine ⟨?_, ?_, ?_⟩
      · rw [z_up_a]; unfold z_upf; split <;> split <;> omega
      · rw [z_up_a]; unfold z_upf; split <;> split <;> omega
      · rw [z_up_a]; unfold z_upf; split <;> split <;> omega
theorem zS_pc {σ : zSt} {b : Nat} {V : zV} (hb : b = 1 ∨ b = 25) (h : zShow σ b V) {K : Nat} (v : Int) (K1 : K < 5) : zShow (z_up σ (b + 4 + 4 * K) 4 v) b (z_upf V (18 + 2 * (K : Int)) v) := by
  obtain ⟨⟨f0, f1, f2, f3, f4, f5⟩, hm, hk⟩ := h
  refine ⟨⟨?_, ?_, ?_, ?_, ?_, ?_⟩, fun m m0 m1 => ?_, fun k k1 => ?_⟩
  · rw [z_up_a]; unfold z_upf; split <;> split <;> omega
  · rw [z_up_a]; unfold z_upf; split <;> split <;> omega
  · rw [z_up_a]; unfold z_upf; split <;> split <;> omega
  · rw [z_up_a]; unfold z_upf; split <;> split <;> omega
  · rw [z_up_a]; unfold z_upf; split <;> split <;> omega
  · rw [z_up_a]; unfold z_upf; split <;> split <;> omega
  · have a1 := hm m m0 m1
    constructor
    · rw [z_up_a]; unfold z_upf; split <;> split <;> omega
    · rw [z_up_a]; unfold z_upf; split <;> split <;> omega
  · obtain ⟨a3, a4, a5⟩ := hk k k1
    refine ⟨?_, fun kl => ?_, fun d d0 d1 => ?_⟩
    · rw [z_up_a]; unfold z_upf; split <;> split <;> omega
    · have kl2 : K ≠ k → (k : Int) < V 1 := fun _ => by unfold z_upf at kl; split at kl <;> omega
      have a6 : K ≠ k → σ (b + 4 + 4 * k) 4 = V (18 + 2 * (k : Int)) := fun q => a4 (kl2 q)
      by_cases q : K = k
      · rw [z_up_a, if_pos (by omega)]; unfold z_upf; rw [if_pos (by omega)]
      have a7 := a6 q
      skip
      rw [z_up_a]; unfold z_upf; split <;> split <;> omega
    · have a6 := a5 d d0 d1
      refine ⟨?_, ?_, ?_⟩
      · rw [z_up_a]; unfold z_upf; split <;> split <;> omega
      · rw [z_up_a]; unfold z_upf; split <;> split <;> omega
      · rw [z_up_a]; unfold z_upf; split <;> split <;> omega
theorem zS_x {σ : zSt} {b : Nat} {V : zV} (hb : b = 1 ∨ b = 25) (h : zShow σ b V) {K : Nat} {n : Int} (v : Int) (K1 : K < 5) (n0 : 0 ≤ n) (n1 : n < 7) : zShow (z_up σ (b + 4 + 4 * K + 1) n v) b (z_upf V (28 + 3 * (7 * (K : Int) + n)) v) := by
  obtain ⟨⟨f0, f1, f2, f3, f4, f5⟩, hm, hk⟩ := h
  refine ⟨⟨?_, ?_, ?_, ?_, ?_, ?_⟩, fun m m0 m1 => ?_, fun k k1 => ?_⟩
  · rw [z_up_a]; unfold z_upf; split <;> split <;> omega
  · rw [z_up_a]; unfold z_upf; split <;> split <;> omega
  · rw [z_up_a]; unfold z_upf; split <;> split <;> omega
  · rw [z_up_a]; unfold z_upf; split <;> split <;> omega
  · rw [z_up_a]; unfold z_upf; split <;> split <;> omega
  · rw [z_up_a]; unfold z_upf; split <;> split <;> omega
  · have a1 := hm m m0 m1
    constructor
    · rw [z_up_a]; unfold z_upf; split <;> split <;> omega
    · rw [z_up_a]; unfold z_upf; split <;> split <;> omega
  · obtain ⟨a3, a4, a5⟩ := hk k k1
    refine ⟨?_, fun kl => ?_, fun d d0 d1 => ?_⟩
    · rw [z_up_a]; unfold z_upf; split <;> split <;> omega
    · have kl2 : (k : Int) < V 1 := by unfold z_upf at kl; split at kl <;> omega
      have a6 := a4 kl2
      rw [z_up_a]; unfold z_upf; split <;> split <;> omega
    · have a6 := a5 d d0 d1
      refine ⟨?_, ?_, ?_⟩
      · rw [z_up_a]; unfold z_upf; split <;> split <;> omega
      · rw [z_up_a]; unfold z_upf; split <;> split <;> omega
      · rw [z_up_a]; unfold z_upf; split <;> split <;> omega
theorem zS_y {σ : zSt} {b : Nat} {V : zV} (hb : b = 1 ∨ b = 25) (h : zShow σ b V) {K : Nat} {n : Int} (v : Int) (K1 : K < 5) (n0 : 0 ≤ n) (n1 : n < 7) : zShow (z_up σ (b + 4 + 4 * K + 2) n v) b (z_upf V (28 + (3 * (7 * (K : Int) + n) + 1)) v) := by
  obtain ⟨⟨f0, f1, f2, f3, f4, f5⟩, hm, hk⟩ := h
  refine ⟨⟨?_, ?_, ?_, ?_, ?_, ?_⟩, fun m m0 m1 => ?_, fun k k1 => ?_⟩
  · rw [z_up_a]; unfold z_upf; split <;> split <;> omega
  · rw [z_up_a]; unfold z_upf; split <;> split <;> omega
  · rw [z_up_a]; unfold z_upf; split <;> split <;> omega
  · rw [z_up_a]; unfold z_upf; split <;> split <;> omega
  · rw [z_up_a]; unfold z_upf; split <;> split <;> omega
  · rw [z_up_a]; unfold z_upf; split <;> split <;> omega
  · have a1 := hm m m0 m1
    constructor
    · rw [z_up_a]; unfold z_upf; split <;> split <;> omega
    · rw [z_up_a]; unfold z_upf; split <;> split <;> omega
  · obtain ⟨a3, a4, a5⟩ := hk k k1
    refine ⟨?_, fun kl => ?_, fun d d0 d1 => ?_⟩
    · rw [z_up_a]; unfold z_upf; split <;> split <;> omega
    · have kl2 : (k : Int) < V 1 := by unfold z_upf at kl; split at kl <;> omega
      have a6 := a4 kl2
      rw [z_up_a]; unfold z_upf; split <;> split <;> omega
    · have a6 := a5 d d0 d1
      refine ⟨?_, ?_, ?_⟩
      · rw [z_up_a]; unfold z_upf; split <;> split <;> omega
      · rw [z_up_a]; unfold z_upf; split <;> split <;> omega
      · rw [z_up_a]; unfold z_upf; split <;> split <;> omega
theorem zS_s {σ : zSt} {b : Nat} {V : zV} (hb : b = 1 ∨ b = 25) (h : zShow σ b V) {K : Nat} {n : Int} (v : Int) (K1 : K < 5) (n0 : 0 ≤ n) (n1 : n < 7) : zShow (z_up σ (b + 4 + 4 * K + 3) n v) b (z_upf V (28 + (3 * (7 * (K : Int) + n) + 2)) v) := by
  obtain ⟨⟨f0, f1, f2, f3, f4, f5⟩, hm, hk⟩ := h
  refine ⟨⟨?_, ?_, ?_, ?_, ?_, ?_⟩, fun m m0 m1 => ?_, fun k k1 => ?_⟩
  · rw [z_up_a]; unfold z_upf; split <;> split <;> omega
  · rw [z_up_a]; unfold z_upf; split <;> split <;> omega
  · rw [z_up_a]; unfold z_upf; split <;> split <;> omega
  · rw [z_up_a]; unfold z_upf; split <;> split <;> omega
  · rw [z_up_a]; unfold z_upf; split <;> split <;> omega
  · rw [z_up_a]; unfold z_upf; split <;> split <;> omega
  · have a1 := hm m m0 m1
    constructor
    · rw [z_up_a]; unfold z_upf; split <;> split <;> omega
    · rw [z_up_a]; unfold z_upf; split <;> split <;> omega
  · obtain ⟨a3, a4, a5⟩ := hk k k1
    refine ⟨?_, fun kl => ?_, fun d d0 d1 => ?_⟩
    · rw [z_up_a]; unfold z_upf; split <;> split <;> omega
    · have kl2 : (k : Int) < V 1 := by unfold z_upf at kl; split at kl <;> omega
      have a6 := a4 kl2
      rw [z_up_a]; unfold z_upf; split <;> split <;> omega
    · have a6 := a5 d d0 d1
      refine ⟨?_, ?_, ?_⟩
      · rw [z_up_a]; unfold z_upf; split <;> split <;> omega
      · rw [z_up_a]; unfold z_upf; split <;> split <;> omega
      · rw [z_up_a]; unfold z_upf; split <;> split <;> omega
theorem zShow.of {σ σ1 : zSt} {b : Nat} {V : zV} (h : zShow σ b V) (e : ∀ c : Nat, b ≤ c → c < b + 24 → σ1 c = σ c) : zShow σ1 b V := by
  obtain ⟨⟨f0, f1, f2, f3, f4, f5⟩, hm, hk⟩ := h
  refine ⟨?_, fun m m0 m1 => ?_, fun k k1 => ?_⟩
  · rw [e b (by omega) (by omega)]; exact ⟨f0, f1, f2, f3, f4, f5⟩
  · rw [e (b + 1) (by omega) (by omega), e (b + 2) (by omega) (by omega)]; exact hm m m0 m1
  · rw [e (b + 4 + 4 * k) (by omega) (by omega), e (b + 4 + 4 * k + 1) (by omega) (by omega), e (b + 4 + 4 * k + 2) (by omega) (by omega), e (b + 4 + 4 * k + 3) (by omega) (by omega)]; exact hk k k1
/-- the cells that a change of the show leaves -/
def zFr (c : Nat) : Prop := c = 0 ∨ (25 ≤ c ∧ c < 49) ∨ 53 ≤ c
def zC0 (σ σ' : zSt) (V : zV) : Prop := zShow σ' 1 V ∧ ∀ c : Nat, zFr c → σ' c = σ c
theorem zC0.refl {σ : zSt} {V : zV} (h : zShow σ 1 V) : zC0 σ σ V := ⟨h, fun _ _ => rfl⟩
theorem zC0.eq {σ σ1 : zSt} {V V' : zV} (h : zC0 σ σ1 V) (e : V = V') : zC0 σ σ1 V' := e ▸ h
theorem zC0.fr {σ σ1 : zSt} {V : zV} (h : zC0 σ σ1 V) {c : Nat} (j v : Int) (hc : ¬ zFr c) : ∀ d : Nat, zFr d → z_up σ1 c j v d = σ d := fun d hd => by
  have hne : d ≠ c := fun q => hc (by rw [← q]; exact hd)
  rw [z_up_c hne]
  exact h.2 d hd
theorem zC0.f2 {σ σ1 : zSt} {V : zV} (h : zC0 σ σ1 V) (v : Int)  : zC0 σ (z_up σ1 (1) 2 v) (z_upf V 0 v) := ⟨zS_f2 (Or.inl rfl) h.1 v, h.fr _ _ (by unfold zFr; omega)⟩
theorem zC0.f5 {σ σ1 : zSt} {V : zV} (h : zC0 σ σ1 V) (v : Int)  : zC0 σ (z_up σ1 (1) 5 v) (z_upf V 2 v) := ⟨zS_f5 (Or.inl rfl) h.1 v, h.fr _ _ (by unfold zFr; omega)⟩
theorem zC0.f6 {σ σ1 : zSt} {V : zV} (h : zC0 σ σ1 V) (v : Int)  : zC0 σ (z_up σ1 (1) 6 v) (z_upf V 3 v) := ⟨zS_f6 (Or.inl rfl) h.1 v, h.fr _ _ (by unfold zFr; omega)⟩
theorem zC0.f7 {σ σ1 : zSt} {V : zV} (h : zC0 σ σ1 V) (v : Int)  : zC0 σ (z_up σ1 (1) 7 v) (z_upf V 4 v) := ⟨zS_f7 (Or.inl rfl) h.1 v, h.fr _ _ (by unfold zFr; omega)⟩
theorem zC0.f8 {σ σ1 : zSt} {V : zV} (h : zC0 σ σ1 V) (v : Int)  : zC0 σ (z_up σ1 (1) 8 v) (z_upf V 5 v) := ⟨zS_f8 (Or.inl rfl) h.1 v, h.fr _ _ (by unfold zFr; omega)⟩
theorem zC0.f4 {σ σ1 : zSt} {V : zV} (h : zC0 σ σ1 V) (v : Int) (hc : ∀ k : Nat, k < 5 → (k : Int) < v → σ1 (1 + 4 + 4 * k) 4 = V (18 + 2 * (k : Int))) : zC0 σ (z_up σ1 (1) 4 v) (z_upf V 1 v) := ⟨zS_f4 (Or.inl rfl) h.1 v hc, h.fr _ _ (by unfold zFr; omega)⟩
theorem zC0.bd {σ σ1 : zSt} {V : zV} (h : zC0 σ σ1 V) {n : Int} (v : Int) (n0 : 0 ≤ n) (n1 : n < 6) : zC0 σ (z_up σ1 (1 + 1) n v) (z_upf V (6 + 2 * n) v) := ⟨zS_bd (Or.inl rfl) h.1 v n0 n1, h.fr _ _ (by unfold zFr; omega)⟩
theorem zC0.il {σ σ1 : zSt} {V : zV} (h : zC0 σ σ1 V) {n : Int} (v : Int) (n0 : 0 ≤ n) (n1 : n < 6) : zC0 σ (z_up σ1 (1 + 2) n v) (z_upf V (6 + (2 * n + 1)) v) := ⟨zS_il (Or.inl rfl) h.1 v n0 n1, h.fr _ _ (by unfold zFr; omega)⟩
theorem zC0.pd {σ σ1 : zSt} {V : zV} (h : zC0 σ σ1 V) {K : Nat} (v : Int) (K1 : K < 5) : zC0 σ (z_up σ1 (1 + 4 + 4 * K) 3 v) (z_upf V (18 + (2 * (K : Int) + 1)) v) := ⟨zS_pd (Or.inl rfl) h.1 v K1, h.fr _ _ (by unfold zFr; omega)⟩
theorem zC0.pc {σ σ1 : zSt} {V : zV} (h : zC0 σ σ1 V) {K : Nat} (v : Int) (K1 : K < 5) : zC0 σ (z_up σ1 (1 + 4 + 4 * K) 4 v) (z_upf V (18 + 2 * (K : Int)) v) := ⟨zS_pc (Or.inl rfl) h.1 v K1, h.fr _ _ (by unfold zFr; omega)⟩
theorem zC0.x {σ σ1 : zSt} {V : zV} (h : zC0 σ σ1 V) {K : Nat} {n : Int} (v : Int) (K1 : K < 5) (n0 : 0 ≤ n) (n1 : n < 7) : zC0 σ (z_up σ1 (1 + 4 + 4 * K + 1) n v) (z_upf V (28 + 3 * (7 * (K : Int) + n)) v) := ⟨zS_x (Or.inl rfl) h.1 v K1 n0 n1, h.fr _ _ (by unfold zFr; omega)⟩
theorem zC0.y {σ σ1 : zSt} {V : zV} (h : zC0 σ σ1 V) {K : Nat} {n : Int} (v : Int) (K1 : K < 5) (n0 : 0 ≤ n) (n1 : n < 7) : zC0 σ (z_up σ1 (1 + 4 + 4 * K + 2) n v) (z_upf V (28 + (3 * (7 * (K : Int) + n) + 1)) v) := ⟨zS_y (Or.inl rfl) h.1 v K1 n0 n1, h.fr _ _ (by unfold zFr; omega)⟩
theorem zC0.s {σ σ1 : zSt} {V : zV} (h : zC0 σ σ1 V) {K : Nat} {n : Int} (v : Int) (K1 : K < 5) (n0 : 0 ≤ n) (n1 : n < 7) : zC0 σ (z_up σ1 (1 + 4 + 4 * K + 3) n v) (z_upf V (28 + (3 * (7 * (K : Int) + n) + 2)) v) := ⟨zS_s (Or.inl rfl) h.1 v K1 n0 n1, h.fr _ _ (by unfold zFr; omega)⟩
theorem zC0.us {σ σ1 : zSt} {V : zV} (h : zC0 σ σ1 V) {c : Nat} (j v : Int) (hc : ¬ zFr c) (h24 : 25 ≤ c) : zC0 σ (z_up σ1 c j v) V := ⟨h.1.of (fun d d0 d1 => z_up_c (by omega)), h.fr _ _ hc⟩
/-- what becomes of the settings that are known: no more are, and none from f on, or nothing has changed -/
def zKn (σ σ' : zSt) (V V' : zV) (f : Int) : Prop := (0 ≤ σ' 52 5 ∧ σ' 52 5 ≤ σ 52 5) ∧ (σ' 52 5 ≤ f ∨ V' = V)
def zCup (σ σ' : zSt) (V V' : zV) (f : Int) : Prop := zC0 σ σ' V' ∧ zKn σ σ' V V' f
theorem zKn_min {σ σn : zSt} {V V' : zV} {f : Int} (e : σn 52 = σ 52) (hk : 0 ≤ σ 52 5) (hf : 0 ≤ f) : zKn σ (z_up σn 52 5 (min (σn 52 5) f)) V V' f := by
  unfold zKn
  rw [z_up_s, e]
  omega
theorem zCup.refl {σ : zSt} {V : zV} (h : zShow σ 1 V) (hk : 0 ≤ σ 52 5) (f : Int) : zCup σ σ V V f := ⟨zC0.refl h, ⟨hk, Int.le_refl _⟩, Or.inr rfl⟩
