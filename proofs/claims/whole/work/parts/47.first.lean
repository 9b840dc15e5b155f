theorem zaR_sh (a : Nat → Nat) (b c w n : Nat) : zaR (fun i => a (b + i)) c w n = zaR a (b + c) w n := by
  funext i
  show (if i < n then some (a (b + (c + w * i))) else none) = if i < n then some (a (b + c + w * i)) else none
  rw [show b + (c + w * i) = b + c + w * i by omega]
theorem zaR_c {r r' : Nat → Nat} {c w n : Nat} (h : ∀ i, i < n → r (c + w * i) = r' (c + w * i)) : zaR r c w n = zaR r' c w n := by
  funext i
  unfold zaR
  by_cases e : i < n
  · rw [if_pos e, if_pos e, h i e]
  · rw [if_neg e, if_neg e]
theorem k_show_c {κ : Nat → ClassId} {r r' : Nat → Nat} (h : ∀ i, i < 24 → r i = r' i) : k_show κ r = k_show κ r' := by
  unfold k_show
  rw [(show zaR r 4 4 5 = zaR r' 4 4 5 from zaR_c (fun i hi => h _ (by omega))), h 0 (by omega), h 1 (by omega), h 2 (by omega), h 3 (by omega), h 4 (by omega), h 5 (by omega), h 6 (by omega), h 7 (by omega), h 8 (by omega), h 9 (by omega), h 10 (by omega), h 11 (by omega), h 12 (by omega), h 13 (by omega), h 14 (by omega), h 15 (by omega), h 16 (by omega), h 17 (by omega), h 18 (by omega), h 19 (by omega), h 20 (by omega), h 21 (by omega), h 22 (by omega), h 23 (by omega)]
theorem k_shape_c {κ : Nat → ClassId} {r r' : Nat → Nat} (h : ∀ i, i < 3 → r i = r' i) : k_shape κ r = k_shape κ r' := by
  unfold k_shape
  rw [h 0 (by omega), h 1 (by omega), h 2 (by omega)]
theorem k_plan_c {κ : Nat → ClassId} {r r' : Nat → Nat} (sr : Nat) (h : ∀ i, i < 10 → r i = r' i) : k_plan κ r sr = k_plan κ r' sr := by
  unfold k_plan
  rw [(show zaR r 5 1 5 = zaR r' 5 1 5 from zaR_c (fun i hi => h _ (by omega))), h 0 (by omega), h 1 (by omega), h 2 (by omega), h 3 (by omega), h 4 (by omega), h 5 (by omega), h 6 (by omega), h 7 (by omega), h 8 (by omega), h 9 (by omega)]
theorem k_search_c {κ : Nat → ClassId} {r r' : Nat → Nat} (h : ∀ i, i < 8 → r i = r' i) : k_search κ r = k_search κ r' := by
  unfold k_search
  rw [h 0 (by omega), h 1 (by omega), h 2 (by omega), h 3 (by omega), h 4 (by omega), h 5 (by omega), h 6 (by omega), h 7 (by omega)]
theorem k_model_c {κ : Nat → ClassId} {r r' : Nat → Nat} (h : ∀ i, i < 16 → r i = r' i) : k_model κ r = k_model κ r' := by
  unfold k_model
  rw [h 0 (by omega), h 1 (by omega), h 2 (by omega), h 3 (by omega), h 4 (by omega), h 5 (by omega), h 6 (by omega), h 7 (by omega), h 8 (by omega), h 9 (by omega), h 10 (by omega), h 11 (by omega), h 12 (by omega), h 13 (by omega), h 14 (by omega), h 15 (by omega)]
def k_f : Int → Int := fun j => if j = 5 then 1 else if j = 6 then 10 else if j = 7 then 20 else 0
def k_p : Int → Int := fun j => if j = 4 then 1 else 0
/-- what all that is made holds at first -/
def k_s0 : zSt := fun c => match c with
  | 1 => k_f
  | 25 => k_f
  | 5 => k_p
  | 9 => k_p
  | 13 => k_p
  | 17 => k_p
  | 21 => k_p
  | 29 => k_p
  | 33 => k_p
  | 37 => k_p
  | 41 => k_p
  | 45 => k_p
  | 81 => k_num
  | _ => fun _ => 0
abbrev k_Y (κ : Nat → ClassId) (h0 : Nat) (s1 s2 sh : Nat → Nat) (q1 q2 : Nat) : va_W := [k_main h0 (s1 0) (s2 0) (sh 0) q1 q2] ++ k_show κ s1 ++ k_show κ s2 ++ k_shape κ sh
set_option maxRecDepth 100000 in
set_option maxHeartbeats 4000000 in
theorem z_w0 (κ : Nat → ClassId) (a : Nat → Nat) : z_w κ a k_s0 = (((k_Y κ (a 0) (fun i => a (1 + i)) (fun i => a (25 + i)) (fun i => a (49 + i)) (a 52) (a 62) ++ k_plan κ (fun i => a (52 + i)) (a 72)) ++ k_plan κ (fun i => a (62 + i)) (a 72)) ++ k_search κ (fun i => a (72 + i))) ++ k_model κ (fun i => a (80 + i)) := by
  unfold k_Y k_show k_shape k_plan k_search k_model
  rw [zaR_sh a 1 4 4 5, zaR_sh a 25 4 4 5, zaR_sh a 52 5 1 5, zaR_sh a 62 5 1 5]
  rfl
theorem z_permP {D : va_G} {Y S P1 P2 M : va_W} {H : Heap} (h : va_P D vwCl ((((Y ++ S) ++ P1) ++ P2) ++ M) H) : va_P D vwCl ((((Y ++ P1) ++ P2) ++ S) ++ M) H := by
  have h1 : va_P D vwCl ((Y ++ S) ++ ((P1 ++ P2) ++ M)) H := by simpa only [List.append_assoc] using h
  have h2 := h1.swap
  have h3 : va_P D vwCl (((Y ++ (P1 ++ P2)) ++ M) ++ S) H := by simpa only [List.append_assoc] using h2
  have h4 := h3.swap
  simpa only [List.append_assoc] using h4
theorem z_permD {A : Nat → Prop} {Y S P1 P2 M : va_W} (h : va_D A ((((Y ++ S) ++ P1) ++ P2) ++ M)) : va_D A ((((Y ++ P1) ++ P2) ++ S) ++ M) := by
  have h1 : va_D A ((Y ++ S) ++ ((P1 ++ P2) ++ M)) := by simpa only [List.append_assoc] using h
  have h2 := h1.swap
  have h3 : va_D A (((Y ++ (P1 ++ P2)) ++ M) ++ S) := by simpa only [List.append_assoc] using h2
  have h4 := h3.swap
  simpa only [List.append_assoc] using h4
def k_a (h0 : Nat) (s1 s2 sh p1 p2 se mo : Nat → Nat) : Nat → Nat := fun c => if c < 1 then h0 else if c < 25 then s1 (c - 1) else if c < 49 then s2 (c - 25) else if c < 52 then sh (c - 49) else if c < 62 then p1 (c - 52) else if c < 72 then p2 (c - 62) else if c < 80 then se (c - 72) else mo (c - 80)
theorem k_a_s1 {h0 : Nat} {s1 s2 sh p1 p2 se mo : Nat → Nat} : ∀ i, i < 24 → s1 i = k_a h0 s1 s2 sh p1 p2 se mo (1 + i) := by
  intro i hi
  unfold k_a
  rw [if_neg (by omega), if_pos (by omega), show 1 + i - 1 = i by omega]
theorem k_a_s2 {h0 : Nat} {s1 s2 sh p1 p2 se mo : Nat → Nat} : ∀ i, i < 24 → s2 i = k_a h0 s1 s2 sh p1 p2 se mo (25 + i) := by
  intro i hi
  unfold k_a
  rw [if_neg (by omega), if_neg (by omega), if_pos (by omega), show 25 + i - 25 = i by omega]
theorem k_a_sh {h0 : Nat} {s1 s2 sh p1 p2 se mo : Nat → Nat} : ∀ i, i < 3 → sh i = k_a h0 s1 s2 sh p1 p2 se mo (49 + i) := by
  intro i hi
  unfold k_a
  rw [if_neg (by omega), if_neg (by omega), if_neg (by omega), if_pos (by omega), show 49 + i - 49 = i by omega]
theorem k_a_p1 {h0 : Nat} {s1 s2 sh p1 p2 se mo : Nat → Nat} : ∀ i, i < 10 → p1 i = k_a h0 s1 s2 sh p1 p2 se mo (52 + i) := by
  intro i hi
  unfold k_a
  rw [if_neg (by omega), if_neg (by omega), if_neg (by omega), if_neg (by omega), if_pos (by omega), show 52 + i - 52 = i by omega]
theorem k_a_p2 {h0 : Nat} {s1 s2 sh p1 p2 se mo : Nat → Nat} : ∀ i, i < 10 → p2 i = k_a h0 s1 s2 sh p1 p2 se mo (62 + i) := by
  intro i hi
  unfold k_a
  rw [if_neg (by omega), if_neg (by omega), if_neg (by omega), if_neg (by omega), if_neg (by omega), if_pos (by omega), show 62 + i - 62 = i by omega]
theorem k_a_se {h0 : Nat} {s1 s2 sh p1 p2 se mo : Nat → Nat} : ∀ i, i < 8 → se i = k_a h0 s1 s2 sh p1 p2 se mo (72 + i) := by
  intro i hi
  unfold k_a
  rw [if_neg (by omega), if_neg (by omega), if_neg (by omega), if_neg (by omega), if_neg (by omega), if_neg (by omega), if_pos (by omega), show 72 + i - 72 = i by omega]
theorem k_a_mo {h0 : Nat} {s1 s2 sh p1 p2 se mo : Nat → Nat} : ∀ i, i < 16 → mo i = k_a h0 s1 s2 sh p1 p2 se mo (80 + i) := by
  intro i hi
  unfold k_a
  rw [if_neg (by omega), if_neg (by omega), if_neg (by omega), if_neg (by omega), if_neg (by omega), if_neg (by omega), if_neg (by omega), show 80 + i - 80 = i by omega]
/-- what the two constructors leave is the world of the first state -/
theorem z_w1 (κ : Nat → ClassId) (h0 : Nat) (s1 s2 sh p1 p2 se mo : Nat → Nat) : z_w κ (k_a h0 s1 s2 sh p1 p2 se mo) k_s0 = (((k_Y κ h0 s1 s2 sh (p1 0) (p2 0) ++ k_plan κ p1 (se 0)) ++ k_plan κ p2 (se 0)) ++ k_search κ se) ++ k_model κ mo := by
  have e0 : (k_a h0 s1 s2 sh p1 p2 se mo) 0 = h0 := rfl
  have ep1 : (k_a h0 s1 s2 sh p1 p2 se mo) 52 = p1 0 := rfl
  have ep2 : (k_a h0 s1 s2 sh p1 p2 se mo) 62 = p2 0 := rfl
  have ese : (k_a h0 s1 s2 sh p1 p2 se mo) 72 = se 0 := rfl
  rw [z_w0, e0, ep1, ep2, ese, k_plan_c (r := p1) (r' := fun i => (k_a h0 s1 s2 sh p1 p2 se mo) (52 + i)) (se 0) k_a_p1, k_plan_c (r := p2) (r' := fun i => (k_a h0 s1 s2 sh p1 p2 se mo) (62 + i)) (se 0) k_a_p2, k_search_c (r := se) (r' := fun i => (k_a h0 s1 s2 sh p1 p2 se mo) (72 + i)) k_a_se, k_model_c (r := mo) (r' := fun i => (k_a h0 s1 s2 sh p1 p2 se mo) (80 + i)) k_a_mo]
  unfold k_Y
  rw [k_show_c (r := s1) (r' := fun i => (k_a h0 s1 s2 sh p1 p2 se mo) (1 + i)) k_a_s1, k_show_c (r := s2) (r' := fun i => (k_a h0 s1 s2 sh p1 p2 se mo) (25 + i)) k_a_s2, k_shape_c (r := sh) (r' := fun i => (k_a h0 s1 s2 sh p1 p2 se mo) (49 + i)) k_a_sh]
  rfl
theorem z_aD_of {κ : Nat → ClassId} {a : Nat → Nat} {σ : zSt} {A : Nat → Prop} (h : va_D A (z_w κ a σ)) : z_aD a A := ⟨fun i j hi hj e => h.1 i j _ _ (z_w_at hi) (z_w_at hj) e, fun i hi => h.2 i _ (z_w_at hi)⟩
def k_V : zV := fun j => if j = 2 then 1 else if j = 3 then 10 else if j = 4 then 20 else 0
theorem k_V0 {j : Int} (h : 5 ≤ j) : k_V j = 0 := by unfold k_V; rw [if_neg (by omega), if_neg (by omega), if_neg (by omega)]
theorem k_V_ok : v_ok k_V := by
  have v0 : k_V 0 = 0 := by decide
  have v1 : k_V 1 = 0 := by decide
  have v2 : k_V 2 = 1 := by decide
  have v3 : k_V 3 = 10 := by decide
  have v4 : k_V 4 = 20 := by decide
  have v5 : k_V 5 = 0 := by decide
  refine ⟨⟨by omega, by omega, by omega, by omega, by omega, by omega⟩, fun m a b => ?_, fun m a b => by omega, fun k a b => ?_, fun k a b => by omega, fun j a b => ?_⟩
  · rw [k_V0 (by omega), k_V0 (by omega)]; omega
  · rw [k_V0 (by omega), k_V0 (by omega)]; omega
  · rw [k_V0 (by omega), k_V0 (by omega), k_V0 (by omega)]; omega
theorem k_inv : zInv k_s0 k_V := by
  refine ⟨k_V_ok, ⟨fun j a b => ?_, fun j a b => ?_, fun j a b => ?_, fun j a b => ?_⟩, ⟨⟨by decide, by decide, by decide, by decide, by decide, by decide⟩, fun m a b => ?_, fun k hk => ?_⟩, ⟨by decide, fun K q _ => ?_⟩, by decide, fun j a b => ?_, Or.inl ⟨by decide, by decide⟩⟩
  · rcases (show j = 0 ∨ j = 1 ∨ j = 2 ∨ j = 3 ∨ j = 4 ∨ j = 5 by omega) with rfl | rfl | rfl | rfl | rfl | rfl <;> decide
  · rw [k_V0 (by omega)]; rfl
  · rw [k_V0 (by omega)]; rfl
  · rw [k_V0 (by omega)]; rfl
  · rw [k_V0 (by omega), k_V0 (by omega)]; exact ⟨rfl, rfl⟩
  · have v1 : k_V 1 = 0 := by decide
    refine ⟨?_, fun q => by omega, fun d d0 d1 => ?_⟩
    · rw [k_V0 (by omega)]
      rcases (show k = 0 ∨ k = 1 ∨ k = 2 ∨ k = 3 ∨ k = 4 by omega) with rfl | rfl | rfl | rfl | rfl <;> decide
    · rw [k_V0 (by omega), k_V0 (by omega), k_V0 (by omega)]
      rcases (show k = 0 ∨ k = 1 ∨ k = 2 ∨ k = 3 ∨ k = 4 by omega) with rfl | rfl | rfl | rfl | rfl <;> exact ⟨rfl, rfl, rfl⟩
  · have h9 : k_s0 52 5 = 0 := rfl
    omega
  · have h9 : k_s0 93 j = 0 := rfl
    omega

