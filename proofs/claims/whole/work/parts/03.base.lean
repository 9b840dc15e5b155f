def zI (z : Int) : Int32 := Int32.ofInt z
def zL (z : Int) : Int64 := Int64.ofInt z
abbrev zSt : Type := Nat → Int → Int
/-- f, but v at j -/
def z_upf (f : Int → Int) (j v : Int) : Int → Int := fun i => if i = j then v else f i
/-- the state, but v at place j of cell c -/
def z_up (σ : zSt) (c : Nat) (j v : Int) : zSt := fun d => if d = c then z_upf (σ c) j v else σ d
/-- the state, but f in cell c -/
def z_uc (σ : zSt) (c : Nat) (f : Int → Int) : zSt := fun d => if d = c then f else σ d
def zaI (f : Int → Int) : Nat → Int32 := fun j => zI (f (j : Int))
def zaL (f : Int → Int) : Nat → Int64 := fun j => zL (f (j : Int))
def zaR (a : Nat → Nat) (b w n : Nat) : Nat → Option Nat := fun i => if i < n then some (a (b + w * i)) else none
abbrev z_eI (κ : Nat → ClassId) (n : Nat) (f : Int → Int) : va_E := .inl (κ 0, n, .inl (zaI f))
abbrev z_eZ (κ : Nat → ClassId) (n : Nat) (f : Int → Int) : va_E := .inl (κ 2, n, .inl (zaI f))
abbrev z_eL (κ : Nat → ClassId) (n : Nat) (f : Int → Int) : va_E := .inl (κ 1, n, .inr (.inl (zaL f)))
abbrev z_eA (κ : Nat → ClassId) (a : Nat → Nat) (q : Nat) : va_E := .inl (κ 3, 5, .inr (.inr (.inr (.inr (zaR a (q + 1) 4 5)))))
abbrev z_eG (κ : Nat → ClassId) (a : Nat → Nat) (q : Nat) : va_E := .inl (κ 4, 5, .inr (.inr (.inr (.inr (zaR a (q + 1) 1 5)))))
abbrev z_fPic (a : Nat → Nat) (q : Nat) (f : Int → Int) : List Value := [.ref (a (q + 1)), .ref (a (q + 2)), .ref (a (q + 3)), .int (zI (f 3)), .int (zI (f 4))]
abbrev z_fPlan (a : Nat → Nat) (q : Nat) (f : Int → Int) : List Value := [.ref (a (q + 1)), .ref (a (q + 2)), .ref (a (q + 3)), .ref (a (q + 4)), .ref (a 72), .int (zI (f 5))]
abbrev z_fSearch (a : Nat → Nat) (f : Int → Int) : List Value := [.int (zI (f 0)), .int (zI (f 1)), .int (zI (f 2)), .ref (a 73), .ref (a 74), .int (zI (f 5)), .ref (a 75), .ref (a 76), .ref (a 77), .ref (a 78), .ref (a 79), .int (zI (f 11))]
abbrev z_fShape (a : Nat → Nat) (f : Int → Int) : List Value := [.ref (a 50), .ref (a 51), .int (zI (f 2))]
abbrev z_fShow (a : Nat → Nat) (q : Nat) (f : Int → Int) : List Value := [.ref (a (q + 1)), .ref (a (q + 2)), .int (zI (f 2)), .ref (a (q + 3)), .int (zI (f 4)), .int (zI (f 5)), .int (zI (f 6)), .int (zI (f 7)), .int (zI (f 8))]
abbrev z_fMain (a : Nat → Nat) (f : Int → Int) : List Value := [.ref (a 1), .ref (a 25), .int (zI (f 2)), .ref (a 49), .ref (a 52), .ref (a 62)]
abbrev z_fModel (a : Nat → Nat) (f : Int → Int) : List Value := [.ref (a 81), .ref (a 82), .ref (a 83), .ref (a 84), .int (zI (f 4)), .ref (a 85), .ref (a 86), .ref (a 87), .int (zI (f 8)), .ref (a 88), .ref (a 89), .ref (a 90), .ref (a 91), .ref (a 92), .ref (a 93), .ref (a 94), .ref (a 95), .int (zI (f 17))]
/-- what cell c holds, f its contents -/
def z_ce (κ : Nat → ClassId) (a : Nat → Nat) (c : Nat) (f : Int → Int) : va_E := match c with
  | 0 => .inr (5, z_fMain a f)
  | 1 => .inr (4, z_fShow a 1 f)
  | 2 => z_eI κ 6 f
  | 3 => z_eZ κ 6 f
  | 4 => z_eA κ a 4
  | 5 => .inr (0, z_fPic a 5 f)
  | 6 => z_eI κ 7 f
  | 7 => z_eI κ 7 f
  | 8 => z_eZ κ 7 f
  | 9 => .inr (0, z_fPic a 9 f)
  | 10 => z_eI κ 7 f
  | 11 => z_eI κ 7 f
  | 12 => z_eZ κ 7 f
  | 13 => .inr (0, z_fPic a 13 f)
  | 14 => z_eI κ 7 f
  | 15 => z_eI κ 7 f
  | 16 => z_eZ κ 7 f
  | 17 => .inr (0, z_fPic a 17 f)
  | 18 => z_eI κ 7 f
  | 19 => z_eI κ 7 f
  | 20 => z_eZ κ 7 f
  | 21 => .inr (0, z_fPic a 21 f)
  | 22 => z_eI κ 7 f
  | 23 => z_eI κ 7 f
  | 24 => z_eZ κ 7 f
  | 25 => .inr (4, z_fShow a 25 f)
  | 26 => z_eI κ 6 f
  | 27 => z_eZ κ 6 f
  | 28 => z_eA κ a 28
  | 29 => .inr (0, z_fPic a 29 f)
  | 30 => z_eI κ 7 f
  | 31 => z_eI κ 7 f
  | 32 => z_eZ κ 7 f
  | 33 => .inr (0, z_fPic a 33 f)
  | 34 => z_eI κ 7 f
  | 35 => z_eI κ 7 f
  | 36 => z_eZ κ 7 f
  | 37 => .inr (0, z_fPic a 37 f)
  | 38 => z_eI κ 7 f
  | 39 => z_eI κ 7 f
  | 40 => z_eZ κ 7 f
  | 41 => .inr (0, z_fPic a 41 f)
  | 42 => z_eI κ 7 f
  | 43 => z_eI κ 7 f
  | 44 => z_eZ κ 7 f
  | 45 => .inr (0, z_fPic a 45 f)
  | 46 => z_eI κ 7 f
  | 47 => z_eI κ 7 f
  | 48 => z_eZ κ 7 f
  | 49 => .inr (3, z_fShape a f)
  | 50 => z_eI κ 7 f
  | 51 => z_eI κ 7 f
  | 52 => .inr (1, z_fPlan a 52 f)
  | 53 => z_eZ κ 5 f
  | 54 => z_eI κ 5 f
  | 55 => z_eI κ 5 f
  | 56 => z_eG κ a 56
  | 57 => z_eI κ 6 f
  | 58 => z_eI κ 6 f
  | 59 => z_eI κ 6 f
  | 60 => z_eI κ 6 f
  | 61 => z_eI κ 6 f
  | 62 => .inr (1, z_fPlan a 62 f)
  | 63 => z_eZ κ 5 f
  | 64 => z_eI κ 5 f
  | 65 => z_eI κ 5 f
  | 66 => z_eG κ a 66
  | 67 => z_eI κ 6 f
  | 68 => z_eI κ 6 f
  | 69 => z_eI κ 6 f
  | 70 => z_eI κ 6 f
  | 71 => z_eI κ 6 f
  | 72 => .inr (2, z_fSearch a f)
  | 73 => z_eI κ 6 f
  | 74 => z_eI κ 6 f
  | 75 => z_eI κ 6 f
  | 76 => z_eI κ 6 f
  | 77 => z_eI κ 6 f
  | 78 => z_eI κ 42 f
  | 79 => z_eI κ 1764 f
  | 80 => .inr (6, z_fModel a f)
  | 81 => z_eI κ 6 f
  | 82 => z_eI κ 12 f
  | 83 => z_eI κ 10 f
  | 84 => z_eI κ 105 f
  | 85 => z_eI κ 133 f
  | 86 => z_eL κ 16 f
  | 87 => z_eL κ 16 f
  | 88 => z_eI κ 30 f
  | 89 => z_eZ κ 5 f
  | 90 => z_eI κ 5 f
  | 91 => z_eI κ 5 f
  | 92 => z_eI κ 6 f
  | 93 => z_eI κ 6 f
  | 94 => z_eI κ 30 f
  | _ => z_eZ κ 5 f
def z_w (κ : Nat → ClassId) (a : Nat → Nat) (σ : zSt) : va_W := (List.range 96).map (fun c => (a c, z_ce κ a c (σ c)))
theorem z_w_at {κ : Nat → ClassId} {a : Nat → Nat} {σ : zSt} {c : Nat} (h : c < 96) : (z_w κ a σ)[c]? = some (a c, z_ce κ a c (σ c)) := by
  unfold z_w
  rw [List.getElem?_map, List.getElem?_range h]
  rfl
theorem z_w_len {κ : Nat → ClassId} {a : Nat → Nat} {σ : zSt} : (z_w κ a σ).length = 96 := by unfold z_w; rw [List.length_map, List.length_range]
theorem z_w_setc {κ : Nat → ClassId} {a : Nat → Nat} {σ : zSt} {c : Nat} (h : c < 96) (f : Int → Int) : (z_w κ a σ).set c (a c, z_ce κ a c f) = z_w κ a (z_uc σ c f) := by
  apply List.ext_getElem?
  intro i
  rw [List.getElem?_set]
  by_cases hi : c = i
  · subst hi
    rw [if_pos rfl, z_w_len, if_pos h, z_w_at h]
    unfold z_uc
    rw [if_pos rfl]
  · rw [if_neg hi]
    by_cases h2 : i < 96
    · rw [z_w_at h2, z_w_at h2]
      unfold z_uc
      rw [if_neg (fun q => hi q.symm)]
    · rw [List.getElem?_eq_none (by rw [z_w_len]; omega), List.getElem?_eq_none (by rw [z_w_len]; omega)]
theorem z_w_set {κ : Nat → ClassId} {a : Nat → Nat} {σ : zSt} {c : Nat} (h : c < 96) (j v : Int) : (z_w κ a σ).set c (a c, z_ce κ a c (z_upf (σ c) j v)) = z_w κ a (z_up σ c j v) := z_w_setc h _
/-- the addresses are apart, and all in A -/
def z_aD (a : Nat → Nat) (A : Nat → Prop) : Prop := (∀ i j, i < 96 → j < 96 → a i = a j → i = j) ∧ ∀ i, i < 96 → A (a i)
theorem z_aD.D {a : Nat → Nat} {A : Nat → Prop} (h : z_aD a A) (κ : Nat → ClassId) (σ : zSt) : va_D A (z_w κ a σ) := by
  have lt : ∀ {i : Nat} {p : Nat × va_E}, (z_w κ a σ)[i]? = some p → i < 96 := fun {i p} hi => by
    have := (List.getElem?_eq_some_iff.mp hi).1
    rwa [z_w_len] at this
  refine ⟨fun i j p q hi hj hpq => ?_, fun k q hk => ?_⟩
  · have h1 := lt hi
    have h2 := lt hj
    rw [z_w_at h1] at hi
    rw [z_w_at h2] at hj
    cases hi
    cases hj
    exact h.1 i j h1 h2 hpq
  · have h1 := lt hk
    rw [z_w_at h1] at hk
    cases hk
    exact h.2 k h1
def z_tys (κ : Nat → ClassId) : List (ClassId × FieldType) := [(κ 0, .int), (κ 1, .long), (κ 2, .boolean), (κ 3, .object "DotsOnGrass$Picture"), (κ 4, .array .int)]
/-- what the tables say -/
def z_K (D : va_G) (κ : Nat → ClassId) (U : State) : Prop := va_K D vwCl (z_tys κ) U ∧ va_Nw (.methodLinkNest RX0 48 yX5_isOnGrass RX5) U ∧ va_Nw (.methodLinkNest RX1 79 yX2_choose RX5) U ∧ va_Nw (.methodLinkNest RX2 132 yX5_leastStep RX5) U ∧ va_Nw (.methodLinkNest RX0 35 yX5_copyFlags RX5) U ∧ va_Nw (.methodLinkNest RX4 42 yX5_copyFlags RX5) U
theorem z_K.warm {D : va_G} {κ : Nat → ClassId} {s U : State} (h : z_K D κ s) (hW : s.WarmedH U.vm) : z_K D κ U := ⟨va_K.moved hW.alike h.1, h.2.1.warmM hW, h.2.2.1.warmM hW, h.2.2.2.1.warmM hW, h.2.2.2.2.1.warmM hW, h.2.2.2.2.2.warmM hW⟩
theorem z_K.same {D : va_G} {κ : Nat → ClassId} {s U : State} (h : z_K D κ s) (hv : s.vm = U.vm) : z_K D κ U := ⟨va_K.moved (u := s) (by rw [hv]; exact Vm.Alike.refl _) h.1, h.2.1.same rfl hv, h.2.2.1.same rfl hv, h.2.2.2.1.same rfl hv, h.2.2.2.2.1.same rfl hv, h.2.2.2.2.2.same rfl hv⟩
/-! the numbers -/
theorem zI_add (x y : Int) : zI (x + y) = zI x + zI y := Int32.ofInt_add ..
theorem zI_sub (x y : Int) : zI (x - y) = zI x - zI y := Int32.ofInt_sub ..
theorem zI_mul (x y : Int) : zI (x * y) = zI x * zI y := Int32.ofInt_mul ..
theorem zI_neg (x : Int) : zI (-x) = -zI x := Int32.ofInt_neg ..
theorem zL_add (x y : Int) : zL (x + y) = zL x + zL y := Int64.ofInt_add ..
abbrev z_in (x : Int) : Prop := -2147483648 ≤ x ∧ x ≤ 2147483647
theorem zI_toInt {x : Int} (h : z_in x) : (zI x).toInt = x := Int32.toInt_ofInt_of_le (by have := h.1; omega) (by have := h.2; omega)
theorem zI_of (x : Int32) : x = zI x.toInt := (Int32.ofInt_toInt x).symm
theorem zI_rng (x : Int32) : z_in x.toInt := ⟨by have := Int32.le_toInt x; omega, by have := Int32.toInt_lt x; omega⟩
theorem zI_eq {x y : Int} (hx : z_in x) (hy : z_in y) : zI x = zI y ↔ x = y := ⟨fun h => by have := congrArg Int32.toInt h; rwa [zI_toInt hx, zI_toInt hy] at this, fun h => by rw [h]⟩
theorem zI_lt {x y : Int} (hx : z_in x) (hy : z_in y) : zI x < zI y ↔ x < y := by rw [Int32.lt_iff_toInt_lt, zI_toInt hx, zI_toInt hy]
theorem zI_le {x y : Int} (hx : z_in x) (hy : z_in y) : zI x ≤ zI y ↔ x ≤ y := by rw [Int32.le_iff_toInt_le, zI_toInt hx, zI_toInt hy]
theorem zI_0 : zI 0 = 0 := by decide +kernel
theorem zI_eq0 {x : Int} (hx : z_in x) : zI x = 0 ↔ x = 0 := by rw [← zI_0]; exact zI_eq hx (by omega)
theorem zI_lt0 {x : Int} (hx : z_in x) : zI x < 0 ↔ x < 0 := by rw [← zI_0]; exact zI_lt hx (by omega)
theorem zI_le0 {x : Int} (hx : z_in x) : zI x ≤ 0 ↔ x ≤ 0 := by rw [← zI_0]; exact zI_le hx (by omega)
theorem zI_0lt {x : Int} (hx : z_in x) : 0 < zI x ↔ 0 < x := by rw [← zI_0]; exact zI_lt (by omega) hx
theorem zI_0le {x : Int} (hx : z_in x) : 0 ≤ zI x ↔ 0 ≤ x := by rw [← zI_0]; exact zI_le (by omega) hx
theorem zI_clamp {i : Int} {n : Nat} (h0 : 0 ≤ i) (h1 : i < n) (hn : n < 2147483648) : (((zI i).toNatClampNeg : Nat) : Int) = i := by
  have : (zI i).toInt = i := zI_toInt ⟨by omega, by omega⟩
  show (((zI i).toInt.toNat : Nat) : Int) = i
  rw [this]
  omega
theorem zI_vin {i : Int} {n : Nat} (h0 : 0 ≤ i) (h1 : i < n) (hn : n < 2147483648) : vp_in (zI i) n := by
  rw [vp_in_iff, zI_toInt ⟨by omega, by omega⟩]
  exact ⟨h0, h1⟩
theorem zaI_at {f : Int → Int} {i : Int} {n : Nat} (h0 : 0 ≤ i) (h1 : i < n) (hn : n < 2147483648) : zaI f (zI i).toNatClampNeg = zI (f i) := by
  unfold zaI
  rw [zI_clamp h0 h1 hn]
theorem zaL_at {f : Int → Int} {i : Int} {n : Nat} (h0 : 0 ≤ i) (h1 : i < n) (hn : n < 2147483648) : zaL f (zI i).toNatClampNeg = zL (f i) := by
  unfold zaL
  rw [zI_clamp h0 h1 hn]
theorem zaI_up {f : Int → Int} {i v : Int} {n : Nat} (h0 : 0 ≤ i) (h1 : i < n) (hn : n < 2147483648) : upd (zaI f) (zI i).toNatClampNeg (zI v) = zaI (z_upf f i v) := by
  funext j
  have hc := zI_clamp h0 h1 hn
  unfold upd zaI z_upf
  by_cases h : j = (zI i).toNatClampNeg
  · rw [if_pos h, if_pos (by rw [h]; exact hc)]
  · rw [if_neg h, if_neg (fun q => h (by omega))]
theorem zaL_up {f : Int → Int} {i v : Int} {n : Nat} (h0 : 0 ≤ i) (h1 : i < n) (hn : n < 2147483648) : vp_updL (zaL f) (zI i).toNatClampNeg (zL v) = zaL (z_upf f i v) := by
  funext j
  have hc := zI_clamp h0 h1 hn
  unfold vp_updL zaL z_upf
  by_cases h : j = (zI i).toNatClampNeg
  · rw [if_pos h, if_pos (by rw [h]; exact hc)]
  · rw [if_neg h, if_neg (fun q => h (by omega))]
theorem z_up_s {σ : zSt} {c : Nat} {j v : Int} : z_up σ c j v c j = v := by unfold z_up z_upf; rw [if_pos rfl, if_pos rfl]
theorem z_up_c {σ : zSt} {c d : Nat} {j v : Int} (h : d ≠ c) : z_up σ c j v d = σ d := by unfold z_up; rw [if_neg h]
theorem z_up_j {σ : zSt} {c : Nat} {j v i : Int} (h : i ≠ j) : z_up σ c j v c i = σ c i := by unfold z_up z_upf; rw [if_pos rfl, if_neg h]
theorem z_up_a (σ : zSt) (c d : Nat) (j v i : Int) : z_up σ c j v d i = if d = c ∧ i = j then v else σ d i := by
  unfold z_up z_upf
  by_cases h : d = c
  · subst h
    by_cases h2 : i = j <;> simp [h2]
  · simp [h]
/-! the slots of a frame -/
def z_as : Nat → List (Option Value) → List (Nat × Value)
  | _, [] => []
  | i, none :: r => z_as (i + 1) r
  | i, some v :: r => (i, v) :: z_as (i + 1) r
theorem z_as_mem : ∀ (lv : List (Option Value)) (i : Nat) (q : Nat × Value), q ∈ z_as i lv ↔ i ≤ q.1 ∧ lv[q.1 - i]? = some (some q.2)
  | [], i, q => by simp [z_as]
  | none :: r, i, q => by
    have ih := z_as_mem r (i + 1) q
    rw [z_as, ih]
    constructor
    · rintro ⟨h1, h2⟩
      refine ⟨by omega, ?_⟩
      rw [show q.1 - i = (q.1 - (i + 1)) + 1 by omega]
      simpa using h2
    · rintro ⟨h1, h2⟩
      by_cases h : q.1 = i
      · rw [h] at h2; simp at h2
      · refine ⟨by omega, ?_⟩
        rw [show q.1 - i = (q.1 - (i + 1)) + 1 by omega] at h2
        simpa using h2
  | some v :: r, i, q => by
    have ih := z_as_mem r (i + 1) q
    rw [z_as, List.mem_cons, ih]
    constructor
    · rintro (h | ⟨h1, h2⟩)
      · subst h
        exact ⟨Nat.le_refl _, by simp⟩
      · refine ⟨by omega, ?_⟩
        rw [show q.1 - i = (q.1 - (i + 1)) + 1 by omega]
        simpa using h2
    · rintro ⟨h1, h2⟩
      by_cases h : q.1 = i
      · left
        rw [h] at h2
        simp at h2
        exact Prod.ext h h2.symm
      · right
        refine ⟨by omega, ?_⟩
        rw [show q.1 - i = (q.1 - (i + 1)) + 1 by omega] at h2
        simpa using h2
theorem z_as_at {ls : Array Slot} {nL : Nat} {lv : List (Option Value)} (h : lv_has ls nL (z_as 0 lv)) {k : Nat} {v : Value} (hk : lv[k]? = some (some v)) : ls[k]? = some (.val v) := h.2.2 (k, v) ((z_as_mem lv 0 (k, v)).mpr ⟨Nat.zero_le _, by simpa using hk⟩)
def z_c2 : Option Value → Bool
  | none => false
  | some v => v.category == 2
/-- nothing of two slots ahead of k -/
def z_ok (lv : List (Option Value)) : Nat → Bool
  | 0 => true
  | k + 1 => !(z_c2 ((lv[k]?).join))
theorem z_as_set {ls : Array Slot} {nL : Nat} {lv : List (Option Value)} {k : Nat} {v : Value} (ho : z_ok lv k = true) (h : lv_has ls nL ((k, v) :: (z_as 0 lv).filter (fun q => !(q.1 == k) && !(q.1 + 1 == k && q.2.category == 2)))) : lv_has ls nL (z_as 0 (lv.set k (some v))) := by
  refine ⟨h.1, h.2.1, fun q hq => ?_⟩
  have h2 := (z_as_mem _ 0 q).mp hq
  obtain ⟨-, h3⟩ := h2
  rw [Nat.sub_zero, List.getElem?_set] at h3
  by_cases hk : k = q.1
  · rw [if_pos hk] at h3
    by_cases hl : k < lv.length
    · rw [if_pos hl] at h3
      have : q = (k, v) := Prod.ext hk.symm (Option.some.inj (Option.some.inj h3)).symm
      rw [this]
      exact h.2.2 _ List.mem_cons_self
    · rw [if_neg hl] at h3
      cases h3
  · rw [if_neg hk] at h3
    refine h.2.2 q (List.mem_cons_of_mem _ (List.mem_filter.mpr ⟨(z_as_mem lv 0 q).mpr ⟨Nat.zero_le _, by simpa using h3⟩, ?_⟩))
    have e1 : (q.1 == k) = false := by simp; exact fun e => hk e.symm
    rw [e1]
    by_cases h4 : q.1 + 1 = k
    · subst h4
      have ho2 : (!(z_c2 ((lv[q.1]?).join))) = true := ho
      rw [h3] at ho2
      simp [z_c2] at ho2
      simp [ho2]
    · simp [h4]

section ZR
variable {p : Program} {l : Launch} {e : Env} {R : Room} {s : State} {m : MethodId} {args : Array Value} {below : List Frame} {meth : Method} {c : Code} {cc : ByteArray} {own : String} {nL : Nat} {D : va_G} {κ : Nat → ClassId} {a : Nat → Nat} {A : Nat → Prop} {kc ks : Nat} {Q : State → Prop}
variable {σ : zSt} {lv : List (Option Value)} {pc : Nat} {st : List Value}
/-- the machine goes on: the world holds σ, the frame lv, the stack st -/
def z_G (p : Program) (l : Launch) (e : Env) (R : Room) (s : State) (m : MethodId) (args : Array Value) (below : List Frame) (meth : Method) (c : Code) (nL : Nat) (D : va_G) (κ : Nat → ClassId) (a : Nat → Nat) (A : Nat → Prop) (kc ks : Nat) (Q : State → Prop) (σ : zSt) (lv : List (Option Value)) (pc : Nat) (st : List Value) : Prop :=
  ∀ (ls : Array Slot) (H : Heap) (locs : List Loc), lv_has ls nL (z_as 0 lv) → va_P D vwCl (z_w κ a σ) H → va_S A s.heap H locs → W p l e R s m args below meth c H locs kc ks Q (F0 m pc ls st)
/-- what holds all along a method -/
def z_X (p : Program) (R : Room) (s : State) (m : MethodId) (args : Array Value) (c : Code) (cc : ByteArray) (own : String) (nL : Nat) (D : va_G) (κ : Nat → ClassId) (a : Nat → Nat) (A : Nat → Prop) (kc ks : Nat) : Prop :=
  CallFix p m c cc nL s args z_TT own ∧ z_K D κ s ∧ z_aD a A ∧ kc ≤ R.cells ∧ ks ≤ R.slots

theorem r_iconst (X : z_X p R s m args c cc own nL D κ a A kc ks) {n : Int} (hd : decode cc pc = .ok (.iconst n, 1))  (k : z_G p l e R s m args below meth c nL D κ a A kc ks Q σ lv (pc + 1) (.int (zI n) :: st)) : z_G p l e R s m args below meth c nL D κ a A kc ks Q σ lv pc st :=
  fun ls H locs hl hP hS => lv_iconst X.1.1 X.1.2.1 hd rfl (k ls H locs hl hP hS)
theorem r_bipush (X : z_X p R s m args c cc own nL D κ a A kc ks) {n : Int} (hd : decode cc pc = .ok (.bipush n, 2)) (hn : (Int8.ofInt n).toInt32 = zI n := by decide +kernel) (k : z_G p l e R s m args below meth c nL D κ a A kc ks Q σ lv (pc + 2) (.int (zI n) :: st)) : z_G p l e R s m args below meth c nL D κ a A kc ks Q σ lv pc st :=
  fun ls H locs hl hP hS => lv_bipush X.1.1 X.1.2.1 hd hn (k ls H locs hl hP hS)
theorem r_sipush (X : z_X p R s m args c cc own nL D κ a A kc ks) {n : Int} (hd : decode cc pc = .ok (.sipush n, 3)) (hn : (Int16.ofInt n).toInt32 = zI n := by decide +kernel) (k : z_G p l e R s m args below meth c nL D κ a A kc ks Q σ lv (pc + 3) (.int (zI n) :: st)) : z_G p l e R s m args below meth c nL D κ a A kc ks Q σ lv pc st :=
  fun ls H locs hl hP hS => lv_sipush X.1.1 X.1.2.1 hd hn (k ls H locs hl hP hS)
theorem r_lconst (X : z_X p R s m args c cc own nL D κ a A kc ks) {n : Fin 2} (hd : decode cc pc = .ok (.lconst n, 1)) (v : Int) (hn : Int64.ofNat (n : Nat) = zL v := by decide +kernel) (k : z_G p l e R s m args below meth c nL D κ a A kc ks Q σ lv (pc + 1) (.long (zL v) :: st)) : z_G p l e R s m args below meth c nL D κ a A kc ks Q σ lv pc st :=
  fun ls H locs hl hP hS => lv_lconst X.1.1 X.1.2.1 hd hn (k ls H locs hl hP hS)
theorem r_ldc (X : z_X p R s m args c cc own nL D κ a A kc ks) {ix : Nat} {v : Int32} (hd : decode cc pc = .ok (.ldc ix, 2)) (z : Int) (hz : v = zI z) (hc : Cond.constant own ix v ∈ z_TT) (k : z_G p l e R s m args below meth c nL D κ a A kc ks Q σ lv (pc + 2) (.int (zI z) :: st)) : z_G p l e R s m args below meth c nL D κ a A kc ks Q σ lv pc st :=
  fun ls H locs hl hP hS => lv_ldc X.1.1 X.1.2.1 X.1.2.2.2.1 (X.1.2.2.2.2 _ hc) hd (by rw [hz]; exact k ls H locs hl hP hS)
theorem r_ldc2 (X : z_X p R s m args c cc own nL D κ a A kc ks) {ix : Nat} {v : Int64} (hd : decode cc pc = .ok (.ldc2_w ix, 3)) (z : Int) (hz : v = zL z) (hc : Cond.constantLong own ix v ∈ z_TT) (k : z_G p l e R s m args below meth c nL D κ a A kc ks Q σ lv (pc + 3) (.long (zL z) :: st)) : z_G p l e R s m args below meth c nL D κ a A kc ks Q σ lv pc st :=
  fun ls H locs hl hP hS => lv_ldc2 X.1.1 X.1.2.1 X.1.2.2.2.1 (X.1.2.2.2.2 _ hc) hd (by rw [hz]; exact k ls H locs hl hP hS)
theorem r_iload0 (X : z_X p R s m args c cc own nL D κ a A kc ks)  {x : Int} (hd : decode cc pc = .ok (.iload_n 0, 1))  (k : z_G p l e R s m args below meth c nL D κ a A kc ks Q σ (some (.int (zI x)) :: lv) (pc + 1) (.int (zI x) :: st)) : z_G p l e R s m args below meth c nL D κ a A kc ks Q σ (some (.int (zI x)) :: lv) pc st :=
  fun ls H locs hl hP hS => lv_iload_n X.1.1 X.1.2.1 hd rfl (z_as_at hl (k := 0) rfl) (k ls H locs hl hP hS)
theorem r_lload0 (X : z_X p R s m args c cc own nL D κ a A kc ks)  {x : Int} (hd : decode cc pc = .ok (.lload_n 0, 1))  (k : z_G p l e R s m args below meth c nL D κ a A kc ks Q σ (some (.long (zL x)) :: lv) (pc + 1) (.long (zL x) :: st)) : z_G p l e R s m args below meth c nL D κ a A kc ks Q σ (some (.long (zL x)) :: lv) pc st :=
  fun ls H locs hl hP hS => lv_lload_n X.1.1 X.1.2.1 hd rfl (z_as_at hl (k := 0) rfl) (k ls H locs hl hP hS)
theorem r_aload0 (X : z_X p R s m args c cc own nL D κ a A kc ks)  {x : Nat} (hd : decode cc pc = .ok (.aload_n 0, 1))  (k : z_G p l e R s m args below meth c nL D κ a A kc ks Q σ (some (.ref x) :: lv) (pc + 1) (.ref x :: st)) : z_G p l e R s m args below meth c nL D κ a A kc ks Q σ (some (.ref x) :: lv) pc st :=
  fun ls H locs hl hP hS => lv_aload_n X.1.1 X.1.2.1 hd rfl (z_as_at hl (k := 0) rfl) (k ls H locs hl hP hS)
theorem r_istore0 (X : z_X p R s m args c cc own nL D κ a A kc ks)  {o : Option Value} {x : Int} (hd : decode cc pc = .ok (.istore_n 0, 1)) (k : z_G p l e R s m args below meth c nL D κ a A kc ks Q σ (some (.int (zI x)) :: lv) (pc + 1) st) (hn : 0 < nL := by decide) (ho : z_ok (o :: lv) 0 = true := by rfl) : z_G p l e R s m args below meth c nL D κ a A kc ks Q σ (o :: lv) pc (.int (zI x) :: st) :=
  fun ls H locs hl hP hS => lv_istore_n X.1.1 X.1.2.1 hd rfl hl hn rfl (fun ls2 hl2 => k ls2 H locs (z_as_set (k := 0) (v := .int (zI x)) ho hl2) hP hS)
theorem r_astore0 (X : z_X p R s m args c cc own nL D κ a A kc ks)  {o : Option Value} {x : Nat} (hd : decode cc pc = .ok (.astore_n 0, 1)) (k : z_G p l e R s m args below meth c nL D κ a A kc ks Q σ (some (.ref x) :: lv) (pc + 1) st) (hn : 0 < nL := by decide) (ho : z_ok (o :: lv) 0 = true := by rfl) : z_G p l e R s m args below meth c nL D κ a A kc ks Q σ (o :: lv) pc (.ref x :: st) :=
  fun ls H locs hl hP hS => lv_astore_n X.1.1 X.1.2.1 hd rfl hl hn rfl (fun ls2 hl2 => k ls2 H locs (z_as_set (k := 0) (v := .ref x) ho hl2) hP hS)
theorem r_iinc0 (X : z_X p R s m args c cc own nL D κ a A kc ks)  {x n : Int} (hd : decode cc pc = .ok (.iinc 0 n, 3)) (k : z_G p l e R s m args below meth c nL D κ a A kc ks Q σ (some (.int (zI (x + n))) :: lv) (pc + 3) st) (hn : 0 < nL := by decide) (ho : z_ok (some (.int (zI x)) :: lv) 0 = true := by rfl) : z_G p l e R s m args below meth c nL D κ a A kc ks Q σ (some (.int (zI x)) :: lv) pc st := by
  intro ls H locs hl hP hS
  obtain ⟨q, hq⟩ := List.getElem?_of_mem ((z_as_mem (some (.int (zI x)) :: lv) 0 (0, .int (zI x))).mpr ⟨Nat.zero_le _, rfl⟩)
  exact lv_iinc X.1.1 X.1.2.1 hd hl (k := q) hq (zI_add x n).symm hn rfl (fun ls2 hl2 => k ls2 H locs (z_as_set (k := 0) (v := .int (zI (x + n))) ho hl2) hP hS)
theorem r_iload1 (X : z_X p R s m args c cc own nL D κ a A kc ks) {o0 : Option Value} {x : Int} (hd : decode cc pc = .ok (.iload_n 1, 1))  (k : z_G p l e R s m args below meth c nL D κ a A kc ks Q σ (o0 :: some (.int (zI x)) :: lv) (pc + 1) (.int (zI x) :: st)) : z_G p l e R s m args below meth c nL D κ a A kc ks Q σ (o0 :: some (.int (zI x)) :: lv) pc st :=
  fun ls H locs hl hP hS => lv_iload_n X.1.1 X.1.2.1 hd rfl (z_as_at hl (k := 1) rfl) (k ls H locs hl hP hS)
theorem r_lload1 (X : z_X p R s m args c cc own nL D κ a A kc ks) {o0 : Option Value} {x : Int} (hd : decode cc pc = .ok (.lload_n 1, 1))  (k : z_G p l e R s m args below meth c nL D κ a A kc ks Q σ (o0 :: some (.long (zL x)) :: lv) (pc + 1) (.long (zL x) :: st)) : z_G p l e R s m args below meth c nL D κ a A kc ks Q σ (o0 :: some (.long (zL x)) :: lv) pc st :=
  fun ls H locs hl hP hS => lv_lload_n X.1.1 X.1.2.1 hd rfl (z_as_at hl (k := 1) rfl) (k ls H locs hl hP hS)
theorem r_aload1 (X : z_X p R s m args c cc own nL D κ a A kc ks) {o0 : Option Value} {x : Nat} (hd : decode cc pc = .ok (.aload_n 1, 1))  (k : z_G p l e R s m args below meth c nL D κ a A kc ks Q σ (o0 :: some (.ref x) :: lv) (pc + 1) (.ref x :: st)) : z_G p l e R s m args below meth c nL D κ a A kc ks Q σ (o0 :: some (.ref x) :: lv) pc st :=
  fun ls H locs hl hP hS => lv_aload_n X.1.1 X.1.2.1 hd rfl (z_as_at hl (k := 1) rfl) (k ls H locs hl hP hS)
theorem r_istore1 (X : z_X p R s m args c cc own nL D κ a A kc ks) {o0 : Option Value} {o : Option Value} {x : Int} (hd : decode cc pc = .ok (.istore_n 1, 1)) (k : z_G p l e R s m args below meth c nL D κ a A kc ks Q σ (o0 :: some (.int (zI x)) :: lv) (pc + 1) st) (hn : 1 < nL := by decide) (ho : z_ok (o0 :: o :: lv) 1 = true := by rfl) : z_G p l e R s m args below meth c nL D κ a A kc ks Q σ (o0 :: o :: lv) pc (.int (zI x) :: st) :=
  fun ls H locs hl hP hS => lv_istore_n X.1.1 X.1.2.1 hd rfl hl hn rfl (fun ls2 hl2 => k ls2 H locs (z_as_set (k := 1) (v := .int (zI x)) ho hl2) hP hS)
theorem r_astore1 (X : z_X p R s m args c cc own nL D κ a A kc ks) {o0 : Option Value} {o : Option Value} {x : Nat} (hd : decode cc pc = .ok (.astore_n 1, 1)) (k : z_G p l e R s m args below meth c nL D κ a A kc ks Q σ (o0 :: some (.ref x) :: lv) (pc + 1) st) (hn : 1 < nL := by decide) (ho : z_ok (o0 :: o :: lv) 1 = true := by rfl) : z_G p l e R s m args below meth c nL D κ a A kc ks Q σ (o0 :: o :: lv) pc (.ref x :: st) :=
  fun ls H locs hl hP hS => lv_astore_n X.1.1 X.1.2.1 hd rfl hl hn rfl (fun ls2 hl2 => k ls2 H locs (z_as_set (k := 1) (v := .ref x) ho hl2) hP hS)
theorem r_iinc1 (X : z_X p R s m args c cc own nL D κ a A kc ks) {o0 : Option Value} {x n : Int} (hd : decode cc pc = .ok (.iinc 1 n, 3)) (k : z_G p l e R s m args below meth c nL D κ a A kc ks Q σ (o0 :: some (.int (zI (x + n))) :: lv) (pc + 3) st) (hn : 1 < nL := by decide) (ho : z_ok (o0 :: some (.int (zI x)) :: lv) 1 = true := by rfl) : z_G p l e R s m args below meth c nL D κ a A kc ks Q σ (o0 :: some (.int (zI x)) :: lv) pc st := by
  intro ls H locs hl hP hS
  obtain ⟨q, hq⟩ := List.getElem?_of_mem ((z_as_mem (o0 :: some (.int (zI x)) :: lv) 0 (1, .int (zI x))).mpr ⟨Nat.zero_le _, rfl⟩)
  exact lv_iinc X.1.1 X.1.2.1 hd hl (k := q) hq (zI_add x n).symm hn rfl (fun ls2 hl2 => k ls2 H locs (z_as_set (k := 1) (v := .int (zI (x + n))) ho hl2) hP hS)
theorem r_iload2 (X : z_X p R s m args c cc own nL D κ a A kc ks) {o0 o1 : Option Value} {x : Int} (hd : decode cc pc = .ok (.iload_n 2, 1))  (k : z_G p l e R s m args below meth c nL D κ a A kc ks Q σ (o0 :: o1 :: some (.int (zI x)) :: lv) (pc + 1) (.int (zI x) :: st)) : z_G p l e R s m args below meth c nL D κ a A kc ks Q σ (o0 :: o1 :: some (.int (zI x)) :: lv) pc st :=
  fun ls H locs hl hP hS => lv_iload_n X.1.1 X.1.2.1 hd rfl (z_as_at hl (k := 2) rfl) (k ls H locs hl hP hS)
theorem r_lload2 (X : z_X p R s m args c cc own nL D κ a A kc ks) {o0 o1 : Option Value} {x : Int} (hd : decode cc pc = .ok (.lload_n 2, 1))  (k : z_G p l e R s m args below meth c nL D κ a A kc ks Q σ (o0 :: o1 :: some (.long (zL x)) :: lv) (pc + 1) (.long (zL x) :: st)) : z_G p l e R s m args below meth c nL D κ a A kc ks Q σ (o0 :: o1 :: some (.long (zL x)) :: lv) pc st :=
  fun ls H locs hl hP hS => lv_lload_n X.1.1 X.1.2.1 hd rfl (z_as_at hl (k := 2) rfl) (k ls H locs hl hP hS)
theorem r_aload2 (X : z_X p R s m args c cc own nL D κ a A kc ks) {o0 o1 : Option Value} {x : Nat} (hd : decode cc pc = .ok (.aload_n 2, 1))  (k : z_G p l e R s m args below meth c nL D κ a A kc ks Q σ (o0 :: o1 :: some (.ref x) :: lv) (pc + 1) (.ref x :: st)) : z_G p l e R s m args below meth c nL D κ a A kc ks Q σ (o0 :: o1 :: some (.ref x) :: lv) pc st :=
  fun ls H locs hl hP hS => lv_aload_n X.1.1 X.1.2.1 hd rfl (z_as_at hl (k := 2) rfl) (k ls H locs hl hP hS)
theorem r_istore2 (X : z_X p R s m args c cc own nL D κ a A kc ks) {o0 o1 : Option Value} {o : Option Value} {x : Int} (hd : decode cc pc = .ok (.istore_n 2, 1)) (k : z_G p l e R s m args below meth c nL D κ a A kc ks Q σ (o0 :: o1 :: some (.int (zI x)) :: lv) (pc + 1) st) (hn : 2 < nL := by decide) (ho : z_ok (o0 :: o1 :: o :: lv) 2 = true := by rfl) : z_G p l e R s m args below meth c nL D κ a A kc ks Q σ (o0 :: o1 :: o :: lv) pc (.int (zI x) :: st) :=
  fun ls H locs hl hP hS => lv_istore_n X.1.1 X.1.2.1 hd rfl hl hn rfl (fun ls2 hl2 => k ls2 H locs (z_as_set (k := 2) (v := .int (zI x)) ho hl2) hP hS)
theorem r_astore2 (X : z_X p R s m args c cc own nL D κ a A kc ks) {o0 o1 : Option Value} {o : Option Value} {x : Nat} (hd : decode cc pc = .ok (.astore_n 2, 1)) (k : z_G p l e R s m args below meth c nL D κ a A kc ks Q σ (o0 :: o1 :: some (.ref x) :: lv) (pc + 1) st) (hn : 2 < nL := by decide) (ho : z_ok (o0 :: o1 :: o :: lv) 2 = true := by rfl) : z_G p l e R s m args below meth c nL D κ a A kc ks Q σ (o0 :: o1 :: o :: lv) pc (.ref x :: st) :=
  fun ls H locs hl hP hS => lv_astore_n X.1.1 X.1.2.1 hd rfl hl hn rfl (fun ls2 hl2 => k ls2 H locs (z_as_set (k := 2) (v := .ref x) ho hl2) hP hS)
theorem r_iinc2 (X : z_X p R s m args c cc own nL D κ a A kc ks) {o0 o1 : Option Value} {x n : Int} (hd : decode cc pc = .ok (.iinc 2 n, 3)) (k : z_G p l e R s m args below meth c nL D κ a A kc ks Q σ (o0 :: o1 :: some (.int (zI (x + n))) :: lv) (pc + 3) st) (hn : 2 < nL := by decide) (ho : z_ok (o0 :: o1 :: some (.int (zI x)) :: lv) 2 = true := by rfl) : z_G p l e R s m args below meth c nL D κ a A kc ks Q σ (o0 :: o1 :: some (.int (zI x)) :: lv) pc st := by
  intro ls H locs hl hP hS
  obtain ⟨q, hq⟩ := List.getElem?_of_mem ((z_as_mem (o0 :: o1 :: some (.int (zI x)) :: lv) 0 (2, .int (zI x))).mpr ⟨Nat.zero_le _, rfl⟩)
  exact lv_iinc X.1.1 X.1.2.1 hd hl (k := q) hq (zI_add x n).symm hn rfl (fun ls2 hl2 => k ls2 H locs (z_as_set (k := 2) (v := .int (zI (x + n))) ho hl2) hP hS)
theorem r_iload3 (X : z_X p R s m args c cc own nL D κ a A kc ks) {o0 o1 o2 : Option Value} {x : Int} (hd : decode cc pc = .ok (.iload_n 3, 1))  (k : z_G p l e R s m args below meth c nL D κ a A kc ks Q σ (o0 :: o1 :: o2 :: some (.int (zI x)) :: lv) (pc + 1) (.int (zI x) :: st)) : z_G p l e R s m args below meth c nL D κ a A kc ks Q σ (o0 :: o1 :: o2 :: some (.int (zI x)) :: lv) pc st :=
  fun ls H locs hl hP hS => lv_iload_n X.1.1 X.1.2.1 hd rfl (z_as_at hl (k := 3) rfl) (k ls H locs hl hP hS)
theorem r_lload3 (X : z_X p R s m args c cc own nL D κ a A kc ks) {o0 o1 o2 : Option Value} {x : Int} (hd : decode cc pc = .ok (.lload_n 3, 1))  (k : z_G p l e R s m args below meth c nL D κ a A kc ks Q σ (o0 :: o1 :: o2 :: some (.long (zL x)) :: lv) (pc + 1) (.long (zL x) :: st)) : z_G p l e R s m args below meth c nL D κ a A kc ks Q σ (o0 :: o1 :: o2 :: some (.long (zL x)) :: lv) pc st :=
  fun ls H locs hl hP hS => lv_lload_n X.1.1 X.1.2.1 hd rfl (z_as_at hl (k := 3) rfl) (k ls H locs hl hP hS)
theorem r_aload3 (X : z_X p R s m args c cc own nL D κ a A kc ks) {o0 o1 o2 : Option Value} {x : Nat} (hd : decode cc pc = .ok (.aload_n 3, 1))  (k : z_G p l e R s m args below meth c nL D κ a A kc ks Q σ (o0 :: o1 :: o2 :: some (.ref x) :: lv) (pc + 1) (.ref x :: st)) : z_G p l e R s m args below meth c nL D κ a A kc ks Q σ (o0 :: o1 :: o2 :: some (.ref x) :: lv) pc st :=
  fun ls H locs hl hP hS => lv_aload_n X.1.1 X.1.2.1 hd rfl (z_as_at hl (k := 3) rfl) (k ls H locs hl hP hS)
theorem r_istore3 (X : z_X p R s m args c cc own nL D κ a A kc ks) {o0 o1 o2 : Option Value} {o : Option Value} {x : Int} (hd : decode cc pc = .ok (.istore_n 3, 1)) (k : z_G p l e R s m args below meth c nL D κ a A kc ks Q σ (o0 :: o1 :: o2 :: some (.int (zI x)) :: lv) (pc + 1) st) (hn : 3 < nL := by decide) (ho : z_ok (o0 :: o1 :: o2 :: o :: lv) 3 = true := by rfl) : z_G p l e R s m args below meth c nL D κ a A kc ks Q σ (o0 :: o1 :: o2 :: o :: lv) pc (.int (zI x) :: st) :=
  fun ls H locs hl hP hS => lv_istore_n X.1.1 X.1.2.1 hd rfl hl hn rfl (fun ls2 hl2 => k ls2 H locs (z_as_set (k := 3) (v := .int (zI x)) ho hl2) hP hS)
theorem r_astore3 (X : z_X p R s m args c cc own nL D κ a A kc ks) {o0 o1 o2 : Option Value} {o : Option Value} {x : Nat} (hd : decode cc pc = .ok (.astore_n 3, 1)) (k : z_G p l e R s m args below meth c nL D κ a A kc ks Q σ (o0 :: o1 :: o2 :: some (.ref x) :: lv) (pc + 1) st) (hn : 3 < nL := by decide) (ho : z_ok (o0 :: o1 :: o2 :: o :: lv) 3 = true := by rfl) : z_G p l e R s m args below meth c nL D κ a A kc ks Q σ (o0 :: o1 :: o2 :: o :: lv) pc (.ref x :: st) :=
  fun ls H locs hl hP hS => lv_astore_n X.1.1 X.1.2.1 hd rfl hl hn rfl (fun ls2 hl2 => k ls2 H locs (z_as_set (k := 3) (v := .ref x) ho hl2) hP hS)
theorem r_iinc3 (X : z_X p R s m args c cc own nL D κ a A kc ks) {o0 o1 o2 : Option Value} {x n : Int} (hd : decode cc pc = .ok (.iinc 3 n, 3)) (k : z_G p l e R s m args below meth c nL D κ a A kc ks Q σ (o0 :: o1 :: o2 :: some (.int (zI (x + n))) :: lv) (pc + 3) st) (hn : 3 < nL := by decide) (ho : z_ok (o0 :: o1 :: o2 :: some (.int (zI x)) :: lv) 3 = true := by rfl) : z_G p l e R s m args below meth c nL D κ a A kc ks Q σ (o0 :: o1 :: o2 :: some (.int (zI x)) :: lv) pc st := by
  intro ls H locs hl hP hS
  obtain ⟨q, hq⟩ := List.getElem?_of_mem ((z_as_mem (o0 :: o1 :: o2 :: some (.int (zI x)) :: lv) 0 (3, .int (zI x))).mpr ⟨Nat.zero_le _, rfl⟩)
  exact lv_iinc X.1.1 X.1.2.1 hd hl (k := q) hq (zI_add x n).symm hn rfl (fun ls2 hl2 => k ls2 H locs (z_as_set (k := 3) (v := .int (zI (x + n))) ho hl2) hP hS)
theorem r_iload4 (X : z_X p R s m args c cc own nL D κ a A kc ks) {o0 o1 o2 o3 : Option Value} {x : Int} (hd : decode cc pc = .ok (.iload 4, 2))  (k : z_G p l e R s m args below meth c nL D κ a A kc ks Q σ (o0 :: o1 :: o2 :: o3 :: some (.int (zI x)) :: lv) (pc + 2) (.int (zI x) :: st)) : z_G p l e R s m args below meth c nL D κ a A kc ks Q σ (o0 :: o1 :: o2 :: o3 :: some (.int (zI x)) :: lv) pc st :=
  fun ls H locs hl hP hS => lv_iload X.1.1 X.1.2.1 hd (z_as_at hl (k := 4) rfl) (k ls H locs hl hP hS)
theorem r_lload4 (X : z_X p R s m args c cc own nL D κ a A kc ks) {o0 o1 o2 o3 : Option Value} {x : Int} (hd : decode cc pc = .ok (.lload 4, 2))  (k : z_G p l e R s m args below meth c nL D κ a A kc ks Q σ (o0 :: o1 :: o2 :: o3 :: some (.long (zL x)) :: lv) (pc + 2) (.long (zL x) :: st)) : z_G p l e R s m args below meth c nL D κ a A kc ks Q σ (o0 :: o1 :: o2 :: o3 :: some (.long (zL x)) :: lv) pc st :=
  fun ls H locs hl hP hS => lv_lload X.1.1 X.1.2.1 hd (z_as_at hl (k := 4) rfl) (k ls H locs hl hP hS)
theorem r_aload4 (X : z_X p R s m args c cc own nL D κ a A kc ks) {o0 o1 o2 o3 : Option Value} {x : Nat} (hd : decode cc pc = .ok (.aload 4, 2))  (k : z_G p l e R s m args below meth c nL D κ a A kc ks Q σ (o0 :: o1 :: o2 :: o3 :: some (.ref x) :: lv) (pc + 2) (.ref x :: st)) : z_G p l e R s m args below meth c nL D κ a A kc ks Q σ (o0 :: o1 :: o2 :: o3 :: some (.ref x) :: lv) pc st :=
  fun ls H locs hl hP hS => lv_aload X.1.1 X.1.2.1 hd (z_as_at hl (k := 4) rfl) (k ls H locs hl hP hS)
theorem r_istore4 (X : z_X p R s m args c cc own nL D κ a A kc ks) {o0 o1 o2 o3 : Option Value} {o : Option Value} {x : Int} (hd : decode cc pc = .ok (.istore 4, 2)) (k : z_G p l e R s m args below meth c nL D κ a A kc ks Q σ (o0 :: o1 :: o2 :: o3 :: some (.int (zI x)) :: lv) (pc + 2) st) (hn : 4 < nL := by decide) (ho : z_ok (o0 :: o1 :: o2 :: o3 :: o :: lv) 4 = true := by rfl) : z_G p l e R s m args below meth c nL D κ a A kc ks Q σ (o0 :: o1 :: o2 :: o3 :: o :: lv) pc (.int (zI x) :: st) :=
  fun ls H locs hl hP hS => lv_istore X.1.1 X.1.2.1 hd hl hn rfl (fun ls2 hl2 => k ls2 H locs (z_as_set (k := 4) (v := .int (zI x)) ho hl2) hP hS)
theorem r_astore4 (X : z_X p R s m args c cc own nL D κ a A kc ks) {o0 o1 o2 o3 : Option Value} {o : Option Value} {x : Nat} (hd : decode cc pc = .ok (.astore 4, 2)) (k : z_G p l e R s m args below meth c nL D κ a A kc ks Q σ (o0 :: o1 :: o2 :: o3 :: some (.ref x) :: lv) (pc + 2) st) (hn : 4 < nL := by decide) (ho : z_ok (o0 :: o1 :: o2 :: o3 :: o :: lv) 4 = true := by rfl) : z_G p l e R s m args below meth c nL D κ a A kc ks Q σ (o0 :: o1 :: o2 :: o3 :: o :: lv) pc (.ref x :: st) :=
  fun ls H locs hl hP hS => lv_astore X.1.1 X.1.2.1 hd hl hn rfl (fun ls2 hl2 => k ls2 H locs (z_as_set (k := 4) (v := .ref x) ho hl2) hP hS)
theorem r_iinc4 (X : z_X p R s m args c cc own nL D κ a A kc ks) {o0 o1 o2 o3 : Option Value} {x n : Int} (hd : decode cc pc = .ok (.iinc 4 n, 3)) (k : z_G p l e R s m args below meth c nL D κ a A kc ks Q σ (o0 :: o1 :: o2 :: o3 :: some (.int (zI (x + n))) :: lv) (pc + 3) st) (hn : 4 < nL := by decide) (ho : z_ok (o0 :: o1 :: o2 :: o3 :: some (.int (zI x)) :: lv) 4 = true := by rfl) : z_G p l e R s m args below meth c nL D κ a A kc ks Q σ (o0 :: o1 :: o2 :: o3 :: some (.int (zI x)) :: lv) pc st := by
  intro ls H locs hl hP hS
  obtain ⟨q, hq⟩ := List.getElem?_of_mem ((z_as_mem (o0 :: o1 :: o2 :: o3 :: some (.int (zI x)) :: lv) 0 (4, .int (zI x))).mpr ⟨Nat.zero_le _, rfl⟩)
  exact lv_iinc X.1.1 X.1.2.1 hd hl (k := q) hq (zI_add x n).symm hn rfl (fun ls2 hl2 => k ls2 H locs (z_as_set (k := 4) (v := .int (zI (x + n))) ho hl2) hP hS)
theorem r_iload5 (X : z_X p R s m args c cc own nL D κ a A kc ks) {o0 o1 o2 o3 o4 : Option Value} {x : Int} (hd : decode cc pc = .ok (.iload 5, 2))  (k : z_G p l e R s m args below meth c nL D κ a A kc ks Q σ (o0 :: o1 :: o2 :: o3 :: o4 :: some (.int (zI x)) :: lv) (pc + 2) (.int (zI x) :: st)) : z_G p l e R s m args below meth c nL D κ a A kc ks Q σ (o0 :: o1 :: o2 :: o3 :: o4 :: some (.int (zI x)) :: lv) pc st :=
  fun ls H locs hl hP hS => lv_iload X.1.1 X.1.2.1 hd (z_as_at hl (k := 5) rfl) (k ls H locs hl hP hS)
theorem r_lload5 (X : z_X p R s m args c cc own nL D κ a A kc ks) {o0 o1 o2 o3 o4 : Option Value} {x : Int} (hd : decode cc pc = .ok (.lload 5, 2))  (k : z_G p l e R s m args below meth c nL D κ a A kc ks Q σ (o0 :: o1 :: o2 :: o3 :: o4 :: some (.long (zL x)) :: lv) (pc + 2) (.long (zL x) :: st)) : z_G p l e R s m args below meth c nL D κ a A kc ks Q σ (o0 :: o1 :: o2 :: o3 :: o4 :: some (.long (zL x)) :: lv) pc st :=
  fun ls H locs hl hP hS => lv_lload X.1.1 X.1.2.1 hd (z_as_at hl (k := 5) rfl) (k ls H locs hl hP hS)
theorem r_aload5 (X : z_X p R s m args c cc own nL D κ a A kc ks) {o0 o1 o2 o3 o4 : Option Value} {x : Nat} (hd : decode cc pc = .ok (.aload 5, 2))  (k : z_G p l e R s m args below meth c nL D κ a A kc ks Q σ (o0 :: o1 :: o2 :: o3 :: o4 :: some (.ref x) :: lv) (pc + 2) (.ref x :: st)) : z_G p l e R s m args below meth c nL D κ a A kc ks Q σ (o0 :: o1 :: o2 :: o3 :: o4 :: some (.ref x) :: lv) pc st :=
  fun ls H locs hl hP hS => lv_aload X.1.1 X.1.2.1 hd (z_as_at hl (k := 5) rfl) (k ls H locs hl hP hS)
theorem r_istore5 (X : z_X p R s m args c cc own nL D κ a A kc ks) {o0 o1 o2 o3 o4 : Option Value} {o : Option Value} {x : Int} (hd : decode cc pc = .ok (.istore 5, 2)) (k : z_G p l e R s m args below meth c nL D κ a A kc ks Q σ (o0 :: o1 :: o2 :: o3 :: o4 :: some (.int (zI x)) :: lv) (pc + 2) st) (hn : 5 < nL := by decide) (ho : z_ok (o0 :: o1 :: o2 :: o3 :: o4 :: o :: lv) 5 = true := by rfl) : z_G p l e R s m args below meth c nL D κ a A kc ks Q σ (o0 :: o1 :: o2 :: o3 :: o4 :: o :: lv) pc (.int (zI x) :: st) :=
  fun ls H locs hl hP hS => lv_istore X.1.1 X.1.2.1 hd hl hn rfl (fun ls2 hl2 => k ls2 H locs (z_as_set (k := 5) (v := .int (zI x)) ho hl2) hP hS)
theorem r_astore5 (X : z_X p R s m args c cc own nL D κ a A kc ks) {o0 o1 o2 o3 o4 : Option Value} {o : Option Value} {x : Nat} (hd : decode cc pc = .ok (.astore 5, 2)) (k : z_G p l e R s m args below meth c nL D κ a A kc ks Q σ (o0 :: o1 :: o2 :: o3 :: o4 :: some (.ref x) :: lv) (pc + 2) st) (hn : 5 < nL := by decide) (ho : z_ok (o0 :: o1 :: o2 :: o3 :: o4 :: o :: lv) 5 = true := by rfl) : z_G p l e R s m args below meth c nL D κ a A kc ks Q σ (o0 :: o1 :: o2 :: o3 :: o4 :: o :: lv) pc (.ref x :: st) :=
  fun ls H locs hl hP hS => lv_astore X.1.1 X.1.2.1 hd hl hn rfl (fun ls2 hl2 => k ls2 H locs (z_as_set (k := 5) (v := .ref x) ho hl2) hP hS)
theorem r_iinc5 (X : z_X p R s m args c cc own nL D κ a A kc ks) {o0 o1 o2 o3 o4 : Option Value} {x n : Int} (hd : decode cc pc = .ok (.iinc 5 n, 3)) (k : z_G p l e R s m args below meth c nL D κ a A kc ks Q σ (o0 :: o1 :: o2 :: o3 :: o4 :: some (.int (zI (x + n))) :: lv) (pc + 3) st) (hn : 5 < nL := by decide) (ho : z_ok (o0 :: o1 :: o2 :: o3 :: o4 :: some (.int (zI x)) :: lv) 5 = true := by rfl) : z_G p l e R s m args below meth c nL D κ a A kc ks Q σ (o0 :: o1 :: o2 :: o3 :: o4 :: some (.int (zI x)) :: lv) pc st := by
  intro ls H locs hl hP hS
  obtain ⟨q, hq⟩ := List.getElem?_of_mem ((z_as_mem (o0 :: o1 :: o2 :: o3 :: o4 :: some (.int (zI x)) :: lv) 0 (5, .int (zI x))).mpr ⟨Nat.zero_le _, rfl⟩)
  exact lv_iinc X.1.1 X.1.2.1 hd hl (k := q) hq (zI_add x n).symm hn rfl (fun ls2 hl2 => k ls2 H locs (z_as_set (k := 5) (v := .int (zI (x + n))) ho hl2) hP hS)
theorem r_iload6 (X : z_X p R s m args c cc own nL D κ a A kc ks) {o0 o1 o2 o3 o4 o5 : Option Value} {x : Int} (hd : decode cc pc = .ok (.iload 6, 2))  (k : z_G p l e R s m args below meth c nL D κ a A kc ks Q σ (o0 :: o1 :: o2 :: o3 :: o4 :: o5 :: some (.int (zI x)) :: lv) (pc + 2) (.int (zI x) :: st)) : z_G p l e R s m args below meth c nL D κ a A kc ks Q σ (o0 :: o1 :: o2 :: o3 :: o4 :: o5 :: some (.int (zI x)) :: lv) pc st :=
  fun ls H locs hl hP hS => lv_iload X.1.1 X.1.2.1 hd (z_as_at hl (k := 6) rfl) (k ls H locs hl hP hS)
theorem r_aload6 (X : z_X p R s m args c cc own nL D κ a A kc ks) {o0 o1 o2 o3 o4 o5 : Option Value} {x : Nat} (hd : decode cc pc = .ok (.aload 6, 2))  (k : z_G p l e R s m args below meth c nL D κ a A kc ks Q σ (o0 :: o1 :: o2 :: o3 :: o4 :: o5 :: some (.ref x) :: lv) (pc + 2) (.ref x :: st)) : z_G p l e R s m args below meth c nL D κ a A kc ks Q σ (o0 :: o1 :: o2 :: o3 :: o4 :: o5 :: some (.ref x) :: lv) pc st :=
  fun ls H locs hl hP hS => lv_aload X.1.1 X.1.2.1 hd (z_as_at hl (k := 6) rfl) (k ls H locs hl hP hS)
theorem r_istore6 (X : z_X p R s m args c cc own nL D κ a A kc ks) {o0 o1 o2 o3 o4 o5 : Option Value} {o : Option Value} {x : Int} (hd : decode cc pc = .ok (.istore 6, 2)) (k : z_G p l e R s m args below meth c nL D κ a A kc ks Q σ (o0 :: o1 :: o2 :: o3 :: o4 :: o5 :: some (.int (zI x)) :: lv) (pc + 2) st) (hn : 6 < nL := by decide) (ho : z_ok (o0 :: o1 :: o2 :: o3 :: o4 :: o5 :: o :: lv) 6 = true := by rfl) : z_G p l e R s m args below meth c nL D κ a A kc ks Q σ (o0 :: o1 :: o2 :: o3 :: o4 :: o5 :: o :: lv) pc (.int (zI x) :: st) :=
  fun ls H locs hl hP hS => lv_istore X.1.1 X.1.2.1 hd hl hn rfl (fun ls2 hl2 => k ls2 H locs (z_as_set (k := 6) (v := .int (zI x)) ho hl2) hP hS)
theorem r_astore6 (X : z_X p R s m args c cc own nL D κ a A kc ks) {o0 o1 o2 o3 o4 o5 : Option Value} {o : Option Value} {x : Nat} (hd : decode cc pc = .ok (.astore 6, 2)) (k : z_G p l e R s m args below meth c nL D κ a A kc ks Q σ (o0 :: o1 :: o2 :: o3 :: o4 :: o5 :: some (.ref x) :: lv) (pc + 2) st) (hn : 6 < nL := by decide) (ho : z_ok (o0 :: o1 :: o2 :: o3 :: o4 :: o5 :: o :: lv) 6 = true := by rfl) : z_G p l e R s m args below meth c nL D κ a A kc ks Q σ (o0 :: o1 :: o2 :: o3 :: o4 :: o5 :: o :: lv) pc (.ref x :: st) :=
  fun ls H locs hl hP hS => lv_astore X.1.1 X.1.2.1 hd hl hn rfl (fun ls2 hl2 => k ls2 H locs (z_as_set (k := 6) (v := .ref x) ho hl2) hP hS)
theorem r_iinc6 (X : z_X p R s m args c cc own nL D κ a A kc ks) {o0 o1 o2 o3 o4 o5 : Option Value} {x n : Int} (hd : decode cc pc = .ok (.iinc 6 n, 3)) (k : z_G p l e R s m args below meth c nL D κ a A kc ks Q σ (o0 :: o1 :: o2 :: o3 :: o4 :: o5 :: some (.int (zI (x + n))) :: lv) (pc + 3) st) (hn : 6 < nL := by decide) (ho : z_ok (o0 :: o1 :: o2 :: o3 :: o4 :: o5 :: some (.int (zI x)) :: lv) 6 = true := by rfl) : z_G p l e R s m args below meth c nL D κ a A kc ks Q σ (o0 :: o1 :: o2 :: o3 :: o4 :: o5 :: some (.int (zI x)) :: lv) pc st := by
  intro ls H locs hl hP hS
  obtain ⟨q, hq⟩ := List.getElem?_of_mem ((z_as_mem (o0 :: o1 :: o2 :: o3 :: o4 :: o5 :: some (.int (zI x)) :: lv) 0 (6, .int (zI x))).mpr ⟨Nat.zero_le _, rfl⟩)
  exact lv_iinc X.1.1 X.1.2.1 hd hl (k := q) hq (zI_add x n).symm hn rfl (fun ls2 hl2 => k ls2 H locs (z_as_set (k := 6) (v := .int (zI (x + n))) ho hl2) hP hS)
theorem r_iload7 (X : z_X p R s m args c cc own nL D κ a A kc ks) {o0 o1 o2 o3 o4 o5 o6 : Option Value} {x : Int} (hd : decode cc pc = .ok (.iload 7, 2))  (k : z_G p l e R s m args below meth c nL D κ a A kc ks Q σ (o0 :: o1 :: o2 :: o3 :: o4 :: o5 :: o6 :: some (.int (zI x)) :: lv) (pc + 2) (.int (zI x) :: st)) : z_G p l e R s m args below meth c nL D κ a A kc ks Q σ (o0 :: o1 :: o2 :: o3 :: o4 :: o5 :: o6 :: some (.int (zI x)) :: lv) pc st :=
  fun ls H locs hl hP hS => lv_iload X.1.1 X.1.2.1 hd (z_as_at hl (k := 7) rfl) (k ls H locs hl hP hS)
theorem r_aload7 (X : z_X p R s m args c cc own nL D κ a A kc ks) {o0 o1 o2 o3 o4 o5 o6 : Option Value} {x : Nat} (hd : decode cc pc = .ok (.aload 7, 2))  (k : z_G p l e R s m args below meth c nL D κ a A kc ks Q σ (o0 :: o1 :: o2 :: o3 :: o4 :: o5 :: o6 :: some (.ref x) :: lv) (pc + 2) (.ref x :: st)) : z_G p l e R s m args below meth c nL D κ a A kc ks Q σ (o0 :: o1 :: o2 :: o3 :: o4 :: o5 :: o6 :: some (.ref x) :: lv) pc st :=
  fun ls H locs hl hP hS => lv_aload X.1.1 X.1.2.1 hd (z_as_at hl (k := 7) rfl) (k ls H locs hl hP hS)
theorem r_istore7 (X : z_X p R s m args c cc own nL D κ a A kc ks) {o0 o1 o2 o3 o4 o5 o6 : Option Value} {o : Option Value} {x : Int} (hd : decode cc pc = .ok (.istore 7, 2)) (k : z_G p l e R s m args below meth c nL D κ a A kc ks Q σ (o0 :: o1 :: o2 :: o3 :: o4 :: o5 :: o6 :: some (.int (zI x)) :: lv) (pc + 2) st) (hn : 7 < nL := by decide) (ho : z_ok (o0 :: o1 :: o2 :: o3 :: o4 :: o5 :: o6 :: o :: lv) 7 = true := by rfl) : z_G p l e R s m args below meth c nL D κ a A kc ks Q σ (o0 :: o1 :: o2 :: o3 :: o4 :: o5 :: o6 :: o :: lv) pc (.int (zI x) :: st) :=
  fun ls H locs hl hP hS => lv_istore X.1.1 X.1.2.1 hd hl hn rfl (fun ls2 hl2 => k ls2 H locs (z_as_set (k := 7) (v := .int (zI x)) ho hl2) hP hS)
theorem r_astore7 (X : z_X p R s m args c cc own nL D κ a A kc ks) {o0 o1 o2 o3 o4 o5 o6 : Option Value} {o : Option Value} {x : Nat} (hd : decode cc pc = .ok (.astore 7, 2)) (k : z_G p l e R s m args below meth c nL D κ a A kc ks Q σ (o0 :: o1 :: o2 :: o3 :: o4 :: o5 :: o6 :: some (.ref x) :: lv) (pc + 2) st) (hn : 7 < nL := by decide) (ho : z_ok (o0 :: o1 :: o2 :: o3 :: o4 :: o5 :: o6 :: o :: lv) 7 = true := by rfl) : z_G p l e R s m args below meth c nL D κ a A kc ks Q σ (o0 :: o1 :: o2 :: o3 :: o4 :: o5 :: o6 :: o :: lv) pc (.ref x :: st) :=
  fun ls H locs hl hP hS => lv_astore X.1.1 X.1.2.1 hd hl hn rfl (fun ls2 hl2 => k ls2 H locs (z_as_set (k := 7) (v := .ref x) ho hl2) hP hS)
theorem r_iinc7 (X : z_X p R s m args c cc own nL D κ a A kc ks) {o0 o1 o2 o3 o4 o5 o6 : Option Value} {x n : Int} (hd : decode cc pc = .ok (.iinc 7 n, 3)) (k : z_G p l e R s m args below meth c nL D κ a A kc ks Q σ (o0 :: o1 :: o2 :: o3 :: o4 :: o5 :: o6 :: some (.int (zI (x + n))) :: lv) (pc + 3) st) (hn : 7 < nL := by decide) (ho : z_ok (o0 :: o1 :: o2 :: o3 :: o4 :: o5 :: o6 :: some (.int (zI x)) :: lv) 7 = true := by rfl) : z_G p l e R s m args below meth c nL D κ a A kc ks Q σ (o0 :: o1 :: o2 :: o3 :: o4 :: o5 :: o6 :: some (.int (zI x)) :: lv) pc st := by
  intro ls H locs hl hP hS
  obtain ⟨q, hq⟩ := List.getElem?_of_mem ((z_as_mem (o0 :: o1 :: o2 :: o3 :: o4 :: o5 :: o6 :: some (.int (zI x)) :: lv) 0 (7, .int (zI x))).mpr ⟨Nat.zero_le _, rfl⟩)
  exact lv_iinc X.1.1 X.1.2.1 hd hl (k := q) hq (zI_add x n).symm hn rfl (fun ls2 hl2 => k ls2 H locs (z_as_set (k := 7) (v := .int (zI (x + n))) ho hl2) hP hS)
theorem r_iload8 (X : z_X p R s m args c cc own nL D κ a A kc ks) {o0 o1 o2 o3 o4 o5 o6 o7 : Option Value} {x : Int} (hd : decode cc pc = .ok (.iload 8, 2))  (k : z_G p l e R s m args below meth c nL D κ a A kc ks Q σ (o0 :: o1 :: o2 :: o3 :: o4 :: o5 :: o6 :: o7 :: some (.int (zI x)) :: lv) (pc + 2) (.int (zI x) :: st)) : z_G p l e R s m args below meth c nL D κ a A kc ks Q σ (o0 :: o1 :: o2 :: o3 :: o4 :: o5 :: o6 :: o7 :: some (.int (zI x)) :: lv) pc st :=
  fun ls H locs hl hP hS => lv_iload X.1.1 X.1.2.1 hd (z_as_at hl (k := 8) rfl) (k ls H locs hl hP hS)
theorem r_aload8 (X : z_X p R s m args c cc own nL D κ a A kc ks) {o0 o1 o2 o3 o4 o5 o6 o7 : Option Value} {x : Nat} (hd : decode cc pc = .ok (.aload 8, 2))  (k : z_G p l e R s m args below meth c nL D κ a A kc ks Q σ (o0 :: o1 :: o2 :: o3 :: o4 :: o5 :: o6 :: o7 :: some (.ref x) :: lv) (pc + 2) (.ref x :: st)) : z_G p l e R s m args below meth c nL D κ a A kc ks Q σ (o0 :: o1 :: o2 :: o3 :: o4 :: o5 :: o6 :: o7 :: some (.ref x) :: lv) pc st :=
  fun ls H locs hl hP hS => lv_aload X.1.1 X.1.2.1 hd (z_as_at hl (k := 8) rfl) (k ls H locs hl hP hS)
theorem r_istore8 (X : z_X p R s m args c cc own nL D κ a A kc ks) {o0 o1 o2 o3 o4 o5 o6 o7 : Option Value} {o : Option Value} {x : Int} (hd : decode cc pc = .ok (.istore 8, 2)) (k : z_G p l e R s m args below meth c nL D κ a A kc ks Q σ (o0 :: o1 :: o2 :: o3 :: o4 :: o5 :: o6 :: o7 :: some (.int (zI x)) :: lv) (pc + 2) st) (hn : 8 < nL := by decide) (ho : z_ok (o0 :: o1 :: o2 :: o3 :: o4 :: o5 :: o6 :: o7 :: o :: lv) 8 = true := by rfl) : z_G p l e R s m args below meth c nL D κ a A kc ks Q σ (o0 :: o1 :: o2 :: o3 :: o4 :: o5 :: o6 :: o7 :: o :: lv) pc (.int (zI x) :: st) :=
  fun ls H locs hl hP hS => lv_istore X.1.1 X.1.2.1 hd hl hn rfl (fun ls2 hl2 => k ls2 H locs (z_as_set (k := 8) (v := .int (zI x)) ho hl2) hP hS)
theorem r_astore8 (X : z_X p R s m args c cc own nL D κ a A kc ks) {o0 o1 o2 o3 o4 o5 o6 o7 : Option Value} {o : Option Value} {x : Nat} (hd : decode cc pc = .ok (.astore 8, 2)) (k : z_G p l e R s m args below meth c nL D κ a A kc ks Q σ (o0 :: o1 :: o2 :: o3 :: o4 :: o5 :: o6 :: o7 :: some (.ref x) :: lv) (pc + 2) st) (hn : 8 < nL := by decide) (ho : z_ok (o0 :: o1 :: o2 :: o3 :: o4 :: o5 :: o6 :: o7 :: o :: lv) 8 = true := by rfl) : z_G p l e R s m args below meth c nL D κ a A kc ks Q σ (o0 :: o1 :: o2 :: o3 :: o4 :: o5 :: o6 :: o7 :: o :: lv) pc (.ref x :: st) :=
  fun ls H locs hl hP hS => lv_astore X.1.1 X.1.2.1 hd hl hn rfl (fun ls2 hl2 => k ls2 H locs (z_as_set (k := 8) (v := .ref x) ho hl2) hP hS)
theorem r_iinc8 (X : z_X p R s m args c cc own nL D κ a A kc ks) {o0 o1 o2 o3 o4 o5 o6 o7 : Option Value} {x n : Int} (hd : decode cc pc = .ok (.iinc 8 n, 3)) (k : z_G p l e R s m args below meth c nL D κ a A kc ks Q σ (o0 :: o1 :: o2 :: o3 :: o4 :: o5 :: o6 :: o7 :: some (.int (zI (x + n))) :: lv) (pc + 3) st) (hn : 8 < nL := by decide) (ho : z_ok (o0 :: o1 :: o2 :: o3 :: o4 :: o5 :: o6 :: o7 :: some (.int (zI x)) :: lv) 8 = true := by rfl) : z_G p l e R s m args below meth c nL D κ a A kc ks Q σ (o0 :: o1 :: o2 :: o3 :: o4 :: o5 :: o6 :: o7 :: some (.int (zI x)) :: lv) pc st := by
  intro ls H locs hl hP hS
  obtain ⟨q, hq⟩ := List.getElem?_of_mem ((z_as_mem (o0 :: o1 :: o2 :: o3 :: o4 :: o5 :: o6 :: o7 :: some (.int (zI x)) :: lv) 0 (8, .int (zI x))).mpr ⟨Nat.zero_le _, rfl⟩)
  exact lv_iinc X.1.1 X.1.2.1 hd hl (k := q) hq (zI_add x n).symm hn rfl (fun ls2 hl2 => k ls2 H locs (z_as_set (k := 8) (v := .int (zI (x + n))) ho hl2) hP hS)
theorem r_iload9 (X : z_X p R s m args c cc own nL D κ a A kc ks) {o0 o1 o2 o3 o4 o5 o6 o7 o8 : Option Value} {x : Int} (hd : decode cc pc = .ok (.iload 9, 2))  (k : z_G p l e R s m args below meth c nL D κ a A kc ks Q σ (o0 :: o1 :: o2 :: o3 :: o4 :: o5 :: o6 :: o7 :: o8 :: some (.int (zI x)) :: lv) (pc + 2) (.int (zI x) :: st)) : z_G p l e R s m args below meth c nL D κ a A kc ks Q σ (o0 :: o1 :: o2 :: o3 :: o4 :: o5 :: o6 :: o7 :: o8 :: some (.int (zI x)) :: lv) pc st :=
  fun ls H locs hl hP hS => lv_iload X.1.1 X.1.2.1 hd (z_as_at hl (k := 9) rfl) (k ls H locs hl hP hS)
theorem r_aload9 (X : z_X p R s m args c cc own nL D κ a A kc ks) {o0 o1 o2 o3 o4 o5 o6 o7 o8 : Option Value} {x : Nat} (hd : decode cc pc = .ok (.aload 9, 2))  (k : z_G p l e R s m args below meth c nL D κ a A kc ks Q σ (o0 :: o1 :: o2 :: o3 :: o4 :: o5 :: o6 :: o7 :: o8 :: some (.ref x) :: lv) (pc + 2) (.ref x :: st)) : z_G p l e R s m args below meth c nL D κ a A kc ks Q σ (o0 :: o1 :: o2 :: o3 :: o4 :: o5 :: o6 :: o7 :: o8 :: some (.ref x) :: lv) pc st :=
  fun ls H locs hl hP hS => lv_aload X.1.1 X.1.2.1 hd (z_as_at hl (k := 9) rfl) (k ls H locs hl hP hS)
theorem r_istore9 (X : z_X p R s m args c cc own nL D κ a A kc ks) {o0 o1 o2 o3 o4 o5 o6 o7 o8 : Option Value} {o : Option Value} {x : Int} (hd : decode cc pc = .ok (.istore 9, 2)) (k : z_G p l e R s m args below meth c nL D κ a A kc ks Q σ (o0 :: o1 :: o2 :: o3 :: o4 :: o5 :: o6 :: o7 :: o8 :: some (.int (zI x)) :: lv) (pc + 2) st) (hn : 9 < nL := by decide) (ho : z_ok (o0 :: o1 :: o2 :: o3 :: o4 :: o5 :: o6 :: o7 :: o8 :: o :: lv) 9 = true := by rfl) : z_G p l e R s m args below meth c nL D κ a A kc ks Q σ (o0 :: o1 :: o2 :: o3 :: o4 :: o5 :: o6 :: o7 :: o8 :: o :: lv) pc (.int (zI x) :: st) :=
  fun ls H locs hl hP hS => lv_istore X.1.1 X.1.2.1 hd hl hn rfl (fun ls2 hl2 => k ls2 H locs (z_as_set (k := 9) (v := .int (zI x)) ho hl2) hP hS)
theorem r_astore9 (X : z_X p R s m args c cc own nL D κ a A kc ks) {o0 o1 o2 o3 o4 o5 o6 o7 o8 : Option Value} {o : Option Value} {x : Nat} (hd : decode cc pc = .ok (.astore 9, 2)) (k : z_G p l e R s m args below meth c nL D κ a A kc ks Q σ (o0 :: o1 :: o2 :: o3 :: o4 :: o5 :: o6 :: o7 :: o8 :: some (.ref x) :: lv) (pc + 2) st) (hn : 9 < nL := by decide) (ho : z_ok (o0 :: o1 :: o2 :: o3 :: o4 :: o5 :: o6 :: o7 :: o8 :: o :: lv) 9 = true := by rfl) : z_G p l e R s m args below meth c nL D κ a A kc ks Q σ (o0 :: o1 :: o2 :: o3 :: o4 :: o5 :: o6 :: o7 :: o8 :: o :: lv) pc (.ref x :: st) :=
  fun ls H locs hl hP hS => lv_astore X.1.1 X.1.2.1 hd hl hn rfl (fun ls2 hl2 => k ls2 H locs (z_as_set (k := 9) (v := .ref x) ho hl2) hP hS)
theorem r_iinc9 (X : z_X p R s m args c cc own nL D κ a A kc ks) {o0 o1 o2 o3 o4 o5 o6 o7 o8 : Option Value} {x n : Int} (hd : decode cc pc = .ok (.iinc 9 n, 3)) (k : z_G p l e R s m args below meth c nL D κ a A kc ks Q σ (o0 :: o1 :: o2 :: o3 :: o4 :: o5 :: o6 :: o7 :: o8 :: some (.int (zI (x + n))) :: lv) (pc + 3) st) (hn : 9 < nL := by decide) (ho : z_ok (o0 :: o1 :: o2 :: o3 :: o4 :: o5 :: o6 :: o7 :: o8 :: some (.int (zI x)) :: lv) 9 = true := by rfl) : z_G p l e R s m args below meth c nL D κ a A kc ks Q σ (o0 :: o1 :: o2 :: o3 :: o4 :: o5 :: o6 :: o7 :: o8 :: some (.int (zI x)) :: lv) pc st := by
  intro ls H locs hl hP hS
  obtain ⟨q, hq⟩ := List.getElem?_of_mem ((z_as_mem (o0 :: o1 :: o2 :: o3 :: o4 :: o5 :: o6 :: o7 :: o8 :: some (.int (zI x)) :: lv) 0 (9, .int (zI x))).mpr ⟨Nat.zero_le _, rfl⟩)
  exact lv_iinc X.1.1 X.1.2.1 hd hl (k := q) hq (zI_add x n).symm hn rfl (fun ls2 hl2 => k ls2 H locs (z_as_set (k := 9) (v := .int (zI (x + n))) ho hl2) hP hS)
theorem r_iload10 (X : z_X p R s m args c cc own nL D κ a A kc ks) {o0 o1 o2 o3 o4 o5 o6 o7 o8 o9 : Option Value} {x : Int} (hd : decode cc pc = .ok (.iload 10, 2))  (k : z_G p l e R s m args below meth c nL D κ a A kc ks Q σ (o0 :: o1 :: o2 :: o3 :: o4 :: o5 :: o6 :: o7 :: o8 :: o9 :: some (.int (zI x)) :: lv) (pc + 2) (.int (zI x) :: st)) : z_G p l e R s m args below meth c nL D κ a A kc ks Q σ (o0 :: o1 :: o2 :: o3 :: o4 :: o5 :: o6 :: o7 :: o8 :: o9 :: some (.int (zI x)) :: lv) pc st :=
  fun ls H locs hl hP hS => lv_iload X.1.1 X.1.2.1 hd (z_as_at hl (k := 10) rfl) (k ls H locs hl hP hS)
theorem r_aload10 (X : z_X p R s m args c cc own nL D κ a A kc ks) {o0 o1 o2 o3 o4 o5 o6 o7 o8 o9 : Option Value} {x : Nat} (hd : decode cc pc = .ok (.aload 10, 2))  (k : z_G p l e R s m args below meth c nL D κ a A kc ks Q σ (o0 :: o1 :: o2 :: o3 :: o4 :: o5 :: o6 :: o7 :: o8 :: o9 :: some (.ref x) :: lv) (pc + 2) (.ref x :: st)) : z_G p l e R s m args below meth c nL D κ a A kc ks Q σ (o0 :: o1 :: o2 :: o3 :: o4 :: o5 :: o6 :: o7 :: o8 :: o9 :: some (.ref x) :: lv) pc st :=
  fun ls H locs hl hP hS => lv_aload X.1.1 X.1.2.1 hd (z_as_at hl (k := 10) rfl) (k ls H locs hl hP hS)
theorem r_istore10 (X : z_X p R s m args c cc own nL D κ a A kc ks) {o0 o1 o2 o3 o4 o5 o6 o7 o8 o9 : Option Value} {o : Option Value} {x : Int} (hd : decode cc pc = .ok (.istore 10, 2)) (k : z_G p l e R s m args below meth c nL D κ a A kc ks Q σ (o0 :: o1 :: o2 :: o3 :: o4 :: o5 :: o6 :: o7 :: o8 :: o9 :: some (.int (zI x)) :: lv) (pc + 2) st) (hn : 10 < nL := by decide) (ho : z_ok (o0 :: o1 :: o2 :: o3 :: o4 :: o5 :: o6 :: o7 :: o8 :: o9 :: o :: lv) 10 = true := by rfl) : z_G p l e R s m args below meth c nL D κ a A kc ks Q σ (o0 :: o1 :: o2 :: o3 :: o4 :: o5 :: o6 :: o7 :: o8 :: o9 :: o :: lv) pc (.int (zI x) :: st) :=
  fun ls H locs hl hP hS => lv_istore X.1.1 X.1.2.1 hd hl hn rfl (fun ls2 hl2 => k ls2 H locs (z_as_set (k := 10) (v := .int (zI x)) ho hl2) hP hS)
theorem r_astore10 (X : z_X p R s m args c cc own nL D κ a A kc ks) {o0 o1 o2 o3 o4 o5 o6 o7 o8 o9 : Option Value} {o : Option Value} {x : Nat} (hd : decode cc pc = .ok (.astore 10, 2)) (k : z_G p l e R s m args below meth c nL D κ a A kc ks Q σ (o0 :: o1 :: o2 :: o3 :: o4 :: o5 :: o6 :: o7 :: o8 :: o9 :: some (.ref x) :: lv) (pc + 2) st) (hn : 10 < nL := by decide) (ho : z_ok (o0 :: o1 :: o2 :: o3 :: o4 :: o5 :: o6 :: o7 :: o8 :: o9 :: o :: lv) 10 = true := by rfl) : z_G p l e R s m args below meth c nL D κ a A kc ks Q σ (o0 :: o1 :: o2 :: o3 :: o4 :: o5 :: o6 :: o7 :: o8 :: o9 :: o :: lv) pc (.ref x :: st) :=
  fun ls H locs hl hP hS => lv_astore X.1.1 X.1.2.1 hd hl hn rfl (fun ls2 hl2 => k ls2 H locs (z_as_set (k := 10) (v := .ref x) ho hl2) hP hS)
theorem r_iinc10 (X : z_X p R s m args c cc own nL D κ a A kc ks) {o0 o1 o2 o3 o4 o5 o6 o7 o8 o9 : Option Value} {x n : Int} (hd : decode cc pc = .ok (.iinc 10 n, 3)) (k : z_G p l e R s m args below meth c nL D κ a A kc ks Q σ (o0 :: o1 :: o2 :: o3 :: o4 :: o5 :: o6 :: o7 :: o8 :: o9 :: some (.int (zI (x + n))) :: lv) (pc + 3) st) (hn : 10 < nL := by decide) (ho : z_ok (o0 :: o1 :: o2 :: o3 :: o4 :: o5 :: o6 :: o7 :: o8 :: o9 :: some (.int (zI x)) :: lv) 10 = true := by rfl) : z_G p l e R s m args below meth c nL D κ a A kc ks Q σ (o0 :: o1 :: o2 :: o3 :: o4 :: o5 :: o6 :: o7 :: o8 :: o9 :: some (.int (zI x)) :: lv) pc st := by
  intro ls H locs hl hP hS
  obtain ⟨q, hq⟩ := List.getElem?_of_mem ((z_as_mem (o0 :: o1 :: o2 :: o3 :: o4 :: o5 :: o6 :: o7 :: o8 :: o9 :: some (.int (zI x)) :: lv) 0 (10, .int (zI x))).mpr ⟨Nat.zero_le _, rfl⟩)
  exact lv_iinc X.1.1 X.1.2.1 hd hl (k := q) hq (zI_add x n).symm hn rfl (fun ls2 hl2 => k ls2 H locs (z_as_set (k := 10) (v := .int (zI (x + n))) ho hl2) hP hS)
theorem r_iload11 (X : z_X p R s m args c cc own nL D κ a A kc ks) {o0 o1 o2 o3 o4 o5 o6 o7 o8 o9 o10 : Option Value} {x : Int} (hd : decode cc pc = .ok (.iload 11, 2))  (k : z_G p l e R s m args below meth c nL D κ a A kc ks Q σ (o0 :: o1 :: o2 :: o3 :: o4 :: o5 :: o6 :: o7 :: o8 :: o9 :: o10 :: some (.int (zI x)) :: lv) (pc + 2) (.int (zI x) :: st)) : z_G p l e R s m args below meth c nL D κ a A kc ks Q σ (o0 :: o1 :: o2 :: o3 :: o4 :: o5 :: o6 :: o7 :: o8 :: o9 :: o10 :: some (.int (zI x)) :: lv) pc st :=
  fun ls H locs hl hP hS => lv_iload X.1.1 X.1.2.1 hd (z_as_at hl (k := 11) rfl) (k ls H locs hl hP hS)
theorem r_aload11 (X : z_X p R s m args c cc own nL D κ a A kc ks) {o0 o1 o2 o3 o4 o5 o6 o7 o8 o9 o10 : Option Value} {x : Nat} (hd : decode cc pc = .ok (.aload 11, 2))  (k : z_G p l e R s m args below meth c nL D κ a A kc ks Q σ (o0 :: o1 :: o2 :: o3 :: o4 :: o5 :: o6 :: o7 :: o8 :: o9 :: o10 :: some (.ref x) :: lv) (pc + 2) (.ref x :: st)) : z_G p l e R s m args below meth c nL D κ a A kc ks Q σ (o0 :: o1 :: o2 :: o3 :: o4 :: o5 :: o6 :: o7 :: o8 :: o9 :: o10 :: some (.ref x) :: lv) pc st :=
  fun ls H locs hl hP hS => lv_aload X.1.1 X.1.2.1 hd (z_as_at hl (k := 11) rfl) (k ls H locs hl hP hS)
theorem r_istore11 (X : z_X p R s m args c cc own nL D κ a A kc ks) {o0 o1 o2 o3 o4 o5 o6 o7 o8 o9 o10 : Option Value} {o : Option Value} {x : Int} (hd : decode cc pc = .ok (.istore 11, 2)) (k : z_G p l e R s m args below meth c nL D κ a A kc ks Q σ (o0 :: o1 :: o2 :: o3 :: o4 :: o5 :: o6 :: o7 :: o8 :: o9 :: o10 :: some (.int (zI x)) :: lv) (pc + 2) st) (hn : 11 < nL := by decide) (ho : z_ok (o0 :: o1 :: o2 :: o3 :: o4 :: o5 :: o6 :: o7 :: o8 :: o9 :: o10 :: o :: lv) 11 = true := by rfl) : z_G p l e R s m args below meth c nL D κ a A kc ks Q σ (o0 :: o1 :: o2 :: o3 :: o4 :: o5 :: o6 :: o7 :: o8 :: o9 :: o10 :: o :: lv) pc (.int (zI x) :: st) :=
  fun ls H locs hl hP hS => lv_istore X.1.1 X.1.2.1 hd hl hn rfl (fun ls2 hl2 => k ls2 H locs (z_as_set (k := 11) (v := .int (zI x)) ho hl2) hP hS)
theorem r_astore11 (X : z_X p R s m args c cc own nL D κ a A kc ks) {o0 o1 o2 o3 o4 o5 o6 o7 o8 o9 o10 : Option Value} {o : Option Value} {x : Nat} (hd : decode cc pc = .ok (.astore 11, 2)) (k : z_G p l e R s m args below meth c nL D κ a A kc ks Q σ (o0 :: o1 :: o2 :: o3 :: o4 :: o5 :: o6 :: o7 :: o8 :: o9 :: o10 :: some (.ref x) :: lv) (pc + 2) st) (hn : 11 < nL := by decide) (ho : z_ok (o0 :: o1 :: o2 :: o3 :: o4 :: o5 :: o6 :: o7 :: o8 :: o9 :: o10 :: o :: lv) 11 = true := by rfl) : z_G p l e R s m args below meth c nL D κ a A kc ks Q σ (o0 :: o1 :: o2 :: o3 :: o4 :: o5 :: o6 :: o7 :: o8 :: o9 :: o10 :: o :: lv) pc (.ref x :: st) :=
  fun ls H locs hl hP hS => lv_astore X.1.1 X.1.2.1 hd hl hn rfl (fun ls2 hl2 => k ls2 H locs (z_as_set (k := 11) (v := .ref x) ho hl2) hP hS)
theorem r_iinc11 (X : z_X p R s m args c cc own nL D κ a A kc ks) {o0 o1 o2 o3 o4 o5 o6 o7 o8 o9 o10 : Option Value} {x n : Int} (hd : decode cc pc = .ok (.iinc 11 n, 3)) (k : z_G p l e R s m args below meth c nL D κ a A kc ks Q σ (o0 :: o1 :: o2 :: o3 :: o4 :: o5 :: o6 :: o7 :: o8 :: o9 :: o10 :: some (.int (zI (x + n))) :: lv) (pc + 3) st) (hn : 11 < nL := by decide) (ho : z_ok (o0 :: o1 :: o2 :: o3 :: o4 :: o5 :: o6 :: o7 :: o8 :: o9 :: o10 :: some (.int (zI x)) :: lv) 11 = true := by rfl) : z_G p l e R s m args below meth c nL D κ a A kc ks Q σ (o0 :: o1 :: o2 :: o3 :: o4 :: o5 :: o6 :: o7 :: o8 :: o9 :: o10 :: some (.int (zI x)) :: lv) pc st := by
  intro ls H locs hl hP hS
  obtain ⟨q, hq⟩ := List.getElem?_of_mem ((z_as_mem (o0 :: o1 :: o2 :: o3 :: o4 :: o5 :: o6 :: o7 :: o8 :: o9 :: o10 :: some (.int (zI x)) :: lv) 0 (11, .int (zI x))).mpr ⟨Nat.zero_le _, rfl⟩)
  exact lv_iinc X.1.1 X.1.2.1 hd hl (k := q) hq (zI_add x n).symm hn rfl (fun ls2 hl2 => k ls2 H locs (z_as_set (k := 11) (v := .int (zI (x + n))) ho hl2) hP hS)
theorem r_iload12 (X : z_X p R s m args c cc own nL D κ a A kc ks) {o0 o1 o2 o3 o4 o5 o6 o7 o8 o9 o10 o11 : Option Value} {x : Int} (hd : decode cc pc = .ok (.iload 12, 2))  (k : z_G p l e R s m args below meth c nL D κ a A kc ks Q σ (o0 :: o1 :: o2 :: o3 :: o4 :: o5 :: o6 :: o7 :: o8 :: o9 :: o10 :: o11 :: some (.int (zI x)) :: lv) (pc + 2) (.int (zI x) :: st)) : z_G p l e R s m args below meth c nL D κ a A kc ks Q σ (o0 :: o1 :: o2 :: o3 :: o4 :: o5 :: o6 :: o7 :: o8 :: o9 :: o10 :: o11 :: some (.int (zI x)) :: lv) pc st :=
  fun ls H locs hl hP hS => lv_iload X.1.1 X.1.2.1 hd (z_as_at hl (k := 12) rfl) (k ls H locs hl hP hS)
theorem r_aload12 (X : z_X p R s m args c cc own nL D κ a A kc ks) {o0 o1 o2 o3 o4 o5 o6 o7 o8 o9 o10 o11 : Option Value} {x : Nat} (hd : decode cc pc = .ok (.aload 12, 2))  (k : z_G p l e R s m args below meth c nL D κ a A kc ks Q σ (o0 :: o1 :: o2 :: o3 :: o4 :: o5 :: o6 :: o7 :: o8 :: o9 :: o10 :: o11 :: some (.ref x) :: lv) (pc + 2) (.ref x :: st)) : z_G p l e R s m args below meth c nL D κ a A kc ks Q σ (o0 :: o1 :: o2 :: o3 :: o4 :: o5 :: o6 :: o7 :: o8 :: o9 :: o10 :: o11 :: some (.ref x) :: lv) pc st :=
  fun ls H locs hl hP hS => lv_aload X.1.1 X.1.2.1 hd (z_as_at hl (k := 12) rfl) (k ls H locs hl hP hS)
theorem r_istore12 (X : z_X p R s m args c cc own nL D κ a A kc ks) {o0 o1 o2 o3 o4 o5 o6 o7 o8 o9 o10 o11 : Option Value} {o : Option Value} {x : Int} (hd : decode cc pc = .ok (.istore 12, 2)) (k : z_G p l e R s m args below meth c nL D κ a A kc ks Q σ (o0 :: o1 :: o2 :: o3 :: o4 :: o5 :: o6 :: o7 :: o8 :: o9 :: o10 :: o11 :: some (.int (zI x)) :: lv) (pc + 2) st) (hn : 12 < nL := by decide) (ho : z_ok (o0 :: o1 :: o2 :: o3 :: o4 :: o5 :: o6 :: o7 :: o8 :: o9 :: o10 :: o11 :: o :: lv) 12 = true := by rfl) : z_G p l e R s m args below meth c nL D κ a A kc ks Q σ (o0 :: o1 :: o2 :: o3 :: o4 :: o5 :: o6 :: o7 :: o8 :: o9 :: o10 :: o11 :: o :: lv) pc (.int (zI x) :: st) :=
  fun ls H locs hl hP hS => lv_istore X.1.1 X.1.2.1 hd hl hn rfl (fun ls2 hl2 => k ls2 H locs (z_as_set (k := 12) (v := .int (zI x)) ho hl2) hP hS)
theorem r_astore12 (X : z_X p R s m args c cc own nL D κ a A kc ks) {o0 o1 o2 o3 o4 o5 o6 o7 o8 o9 o10 o11 : Option Value} {o : Option Value} {x : Nat} (hd : decode cc pc = .ok (.astore 12, 2)) (k : z_G p l e R s m args below meth c nL D κ a A kc ks Q σ (o0 :: o1 :: o2 :: o3 :: o4 :: o5 :: o6 :: o7 :: o8 :: o9 :: o10 :: o11 :: some (.ref x) :: lv) (pc + 2) st) (hn : 12 < nL := by decide) (ho : z_ok (o0 :: o1 :: o2 :: o3 :: o4 :: o5 :: o6 :: o7 :: o8 :: o9 :: o10 :: o11 :: o :: lv) 12 = true := by rfl) : z_G p l e R s m args below meth c nL D κ a A kc ks Q σ (o0 :: o1 :: o2 :: o3 :: o4 :: o5 :: o6 :: o7 :: o8 :: o9 :: o10 :: o11 :: o :: lv) pc (.ref x :: st) :=
  fun ls H locs hl hP hS => lv_astore X.1.1 X.1.2.1 hd hl hn rfl (fun ls2 hl2 => k ls2 H locs (z_as_set (k := 12) (v := .ref x) ho hl2) hP hS)
theorem r_iinc12 (X : z_X p R s m args c cc own nL D κ a A kc ks) {o0 o1 o2 o3 o4 o5 o6 o7 o8 o9 o10 o11 : Option Value} {x n : Int} (hd : decode cc pc = .ok (.iinc 12 n, 3)) (k : z_G p l e R s m args below meth c nL D κ a A kc ks Q σ (o0 :: o1 :: o2 :: o3 :: o4 :: o5 :: o6 :: o7 :: o8 :: o9 :: o10 :: o11 :: some (.int (zI (x + n))) :: lv) (pc + 3) st) (hn : 12 < nL := by decide) (ho : z_ok (o0 :: o1 :: o2 :: o3 :: o4 :: o5 :: o6 :: o7 :: o8 :: o9 :: o10 :: o11 :: some (.int (zI x)) :: lv) 12 = true := by rfl) : z_G p l e R s m args below meth c nL D κ a A kc ks Q σ (o0 :: o1 :: o2 :: o3 :: o4 :: o5 :: o6 :: o7 :: o8 :: o9 :: o10 :: o11 :: some (.int (zI x)) :: lv) pc st := by
  intro ls H locs hl hP hS
  obtain ⟨q, hq⟩ := List.getElem?_of_mem ((z_as_mem (o0 :: o1 :: o2 :: o3 :: o4 :: o5 :: o6 :: o7 :: o8 :: o9 :: o10 :: o11 :: some (.int (zI x)) :: lv) 0 (12, .int (zI x))).mpr ⟨Nat.zero_le _, rfl⟩)
  exact lv_iinc X.1.1 X.1.2.1 hd hl (k := q) hq (zI_add x n).symm hn rfl (fun ls2 hl2 => k ls2 H locs (z_as_set (k := 12) (v := .int (zI (x + n))) ho hl2) hP hS)
theorem r_iload13 (X : z_X p R s m args c cc own nL D κ a A kc ks) {o0 o1 o2 o3 o4 o5 o6 o7 o8 o9 o10 o11 o12 : Option Value} {x : Int} (hd : decode cc pc = .ok (.iload 13, 2))  (k : z_G p l e R s m args below meth c nL D κ a A kc ks Q σ (o0 :: o1 :: o2 :: o3 :: o4 :: o5 :: o6 :: o7 :: o8 :: o9 :: o10 :: o11 :: o12 :: some (.int (zI x)) :: lv) (pc + 2) (.int (zI x) :: st)) : z_G p l e R s m args below meth c nL D κ a A kc ks Q σ (o0 :: o1 :: o2 :: o3 :: o4 :: o5 :: o6 :: o7 :: o8 :: o9 :: o10 :: o11 :: o12 :: some (.int (zI x)) :: lv) pc st :=
  fun ls H locs hl hP hS => lv_iload X.1.1 X.1.2.1 hd (z_as_at hl (k := 13) rfl) (k ls H locs hl hP hS)
theorem r_aload13 (X : z_X p R s m args c cc own nL D κ a A kc ks) {o0 o1 o2 o3 o4 o5 o6 o7 o8 o9 o10 o11 o12 : Option Value} {x : Nat} (hd : decode cc pc = .ok (.aload 13, 2))  (k : z_G p l e R s m args below meth c nL D κ a A kc ks Q σ (o0 :: o1 :: o2 :: o3 :: o4 :: o5 :: o6 :: o7 :: o8 :: o9 :: o10 :: o11 :: o12 :: some (.ref x) :: lv) (pc + 2) (.ref x :: st)) : z_G p l e R s m args below meth c nL D κ a A kc ks Q σ (o0 :: o1 :: o2 :: o3 :: o4 :: o5 :: o6 :: o7 :: o8 :: o9 :: o10 :: o11 :: o12 :: some (.ref x) :: lv) pc st :=
  fun ls H locs hl hP hS => lv_aload X.1.1 X.1.2.1 hd (z_as_at hl (k := 13) rfl) (k ls H locs hl hP hS)
theorem r_istore13 (X : z_X p R s m args c cc own nL D κ a A kc ks) {o0 o1 o2 o3 o4 o5 o6 o7 o8 o9 o10 o11 o12 : Option Value} {o : Option Value} {x : Int} (hd : decode cc pc = .ok (.istore 13, 2)) (k : z_G p l e R s m args below meth c nL D κ a A kc ks Q σ (o0 :: o1 :: o2 :: o3 :: o4 :: o5 :: o6 :: o7 :: o8 :: o9 :: o10 :: o11 :: o12 :: some (.int (zI x)) :: lv) (pc + 2) st) (hn : 13 < nL := by decide) (ho : z_ok (o0 :: o1 :: o2 :: o3 :: o4 :: o5 :: o6 :: o7 :: o8 :: o9 :: o10 :: o11 :: o12 :: o :: lv) 13 = true := by rfl) : z_G p l e R s m args below meth c nL D κ a A kc ks Q σ (o0 :: o1 :: o2 :: o3 :: o4 :: o5 :: o6 :: o7 :: o8 :: o9 :: o10 :: o11 :: o12 :: o :: lv) pc (.int (zI x) :: st) :=
  fun ls H locs hl hP hS => lv_istore X.1.1 X.1.2.1 hd hl hn rfl (fun ls2 hl2 => k ls2 H locs (z_as_set (k := 13) (v := .int (zI x)) ho hl2) hP hS)
theorem r_astore13 (X : z_X p R s m args c cc own nL D κ a A kc ks) {o0 o1 o2 o3 o4 o5 o6 o7 o8 o9 o10 o11 o12 : Option Value} {o : Option Value} {x : Nat} (hd : decode cc pc = .ok (.astore 13, 2)) (k : z_G p l e R s m args below meth c nL D κ a A kc ks Q σ (o0 :: o1 :: o2 :: o3 :: o4 :: o5 :: o6 :: o7 :: o8 :: o9 :: o10 :: o11 :: o12 :: some (.ref x) :: lv) (pc + 2) st) (hn : 13 < nL := by decide) (ho : z_ok (o0 :: o1 :: o2 :: o3 :: o4 :: o5 :: o6 :: o7 :: o8 :: o9 :: o10 :: o11 :: o12 :: o :: lv) 13 = true := by rfl) : z_G p l e R s m args below meth c nL D κ a A kc ks Q σ (o0 :: o1 :: o2 :: o3 :: o4 :: o5 :: o6 :: o7 :: o8 :: o9 :: o10 :: o11 :: o12 :: o :: lv) pc (.ref x :: st) :=
  fun ls H locs hl hP hS => lv_astore X.1.1 X.1.2.1 hd hl hn rfl (fun ls2 hl2 => k ls2 H locs (z_as_set (k := 13) (v := .ref x) ho hl2) hP hS)
theorem r_iinc13 (X : z_X p R s m args c cc own nL D κ a A kc ks) {o0 o1 o2 o3 o4 o5 o6 o7 o8 o9 o10 o11 o12 : Option Value} {x n : Int} (hd : decode cc pc = .ok (.iinc 13 n, 3)) (k : z_G p l e R s m args below meth c nL D κ a A kc ks Q σ (o0 :: o1 :: o2 :: o3 :: o4 :: o5 :: o6 :: o7 :: o8 :: o9 :: o10 :: o11 :: o12 :: some (.int (zI (x + n))) :: lv) (pc + 3) st) (hn : 13 < nL := by decide) (ho : z_ok (o0 :: o1 :: o2 :: o3 :: o4 :: o5 :: o6 :: o7 :: o8 :: o9 :: o10 :: o11 :: o12 :: some (.int (zI x)) :: lv) 13 = true := by rfl) : z_G p l e R s m args below meth c nL D κ a A kc ks Q σ (o0 :: o1 :: o2 :: o3 :: o4 :: o5 :: o6 :: o7 :: o8 :: o9 :: o10 :: o11 :: o12 :: some (.int (zI x)) :: lv) pc st := by
  intro ls H locs hl hP hS
  obtain ⟨q, hq⟩ := List.getElem?_of_mem ((z_as_mem (o0 :: o1 :: o2 :: o3 :: o4 :: o5 :: o6 :: o7 :: o8 :: o9 :: o10 :: o11 :: o12 :: some (.int (zI x)) :: lv) 0 (13, .int (zI x))).mpr ⟨Nat.zero_le _, rfl⟩)
  exact lv_iinc X.1.1 X.1.2.1 hd hl (k := q) hq (zI_add x n).symm hn rfl (fun ls2 hl2 => k ls2 H locs (z_as_set (k := 13) (v := .int (zI (x + n))) ho hl2) hP hS)
theorem r_iload14 (X : z_X p R s m args c cc own nL D κ a A kc ks) {o0 o1 o2 o3 o4 o5 o6 o7 o8 o9 o10 o11 o12 o13 : Option Value} {x : Int} (hd : decode cc pc = .ok (.iload 14, 2))  (k : z_G p l e R s m args below meth c nL D κ a A kc ks Q σ (o0 :: o1 :: o2 :: o3 :: o4 :: o5 :: o6 :: o7 :: o8 :: o9 :: o10 :: o11 :: o12 :: o13 :: some (.int (zI x)) :: lv) (pc + 2) (.int (zI x) :: st)) : z_G p l e R s m args below meth c nL D κ a A kc ks Q σ (o0 :: o1 :: o2 :: o3 :: o4 :: o5 :: o6 :: o7 :: o8 :: o9 :: o10 :: o11 :: o12 :: o13 :: some (.int (zI x)) :: lv) pc st :=
  fun ls H locs hl hP hS => lv_iload X.1.1 X.1.2.1 hd (z_as_at hl (k := 14) rfl) (k ls H locs hl hP hS)
theorem r_aload14 (X : z_X p R s m args c cc own nL D κ a A kc ks) {o0 o1 o2 o3 o4 o5 o6 o7 o8 o9 o10 o11 o12 o13 : Option Value} {x : Nat} (hd : decode cc pc = .ok (.aload 14, 2))  (k : z_G p l e R s m args below meth c nL D κ a A kc ks Q σ (o0 :: o1 :: o2 :: o3 :: o4 :: o5 :: o6 :: o7 :: o8 :: o9 :: o10 :: o11 :: o12 :: o13 :: some (.ref x) :: lv) (pc + 2) (.ref x :: st)) : z_G p l e R s m args below meth c nL D κ a A kc ks Q σ (o0 :: o1 :: o2 :: o3 :: o4 :: o5 :: o6 :: o7 :: o8 :: o9 :: o10 :: o11 :: o12 :: o13 :: some (.ref x) :: lv) pc st :=
  fun ls H locs hl hP hS => lv_aload X.1.1 X.1.2.1 hd (z_as_at hl (k := 14) rfl) (k ls H locs hl hP hS)
theorem r_istore14 (X : z_X p R s m args c cc own nL D κ a A kc ks) {o0 o1 o2 o3 o4 o5 o6 o7 o8 o9 o10 o11 o12 o13 : Option Value} {o : Option Value} {x : Int} (hd : decode cc pc = .ok (.istore 14, 2)) (k : z_G p l e R s m args below meth c nL D κ a A kc ks Q σ (o0 :: o1 :: o2 :: o3 :: o4 :: o5 :: o6 :: o7 :: o8 :: o9 :: o10 :: o11 :: o12 :: o13 :: some (.int (zI x)) :: lv) (pc + 2) st) (hn : 14 < nL := by decide) (ho : z_ok (o0 :: o1 :: o2 :: o3 :: o4 :: o5 :: o6 :: o7 :: o8 :: o9 :: o10 :: o11 :: o12 :: o13 :: o :: lv) 14 = true := by rfl) : z_G p l e R s m args below meth c nL D κ a A kc ks Q σ (o0 :: o1 :: o2 :: o3 :: o4 :: o5 :: o6 :: o7 :: o8 :: o9 :: o10 :: o11 :: o12 :: o13 :: o :: lv) pc (.int (zI x) :: st) :=
  fun ls H locs hl hP hS => lv_istore X.1.1 X.1.2.1 hd hl hn rfl (fun ls2 hl2 => k ls2 H locs (z_as_set (k := 14) (v := .int (zI x)) ho hl2) hP hS)
theorem r_astore14 (X : z_X p R s m args c cc own nL D κ a A kc ks) {o0 o1 o2 o3 o4 o5 o6 o7 o8 o9 o10 o11 o12 o13 : Option Value} {o : Option Value} {x : Nat} (hd : decode cc pc = .ok (.astore 14, 2)) (k : z_G p l e R s m args below meth c nL D κ a A kc ks Q σ (o0 :: o1 :: o2 :: o3 :: o4 :: o5 :: o6 :: o7 :: o8 :: o9 :: o10 :: o11 :: o12 :: o13 :: some (.ref x) :: lv) (pc + 2) st) (hn : 14 < nL := by decide) (ho : z_ok (o0 :: o1 :: o2 :: o3 :: o4 :: o5 :: o6 :: o7 :: o8 :: o9 :: o10 :: o11 :: o12 :: o13 :: o :: lv) 14 = true := by rfl) : z_G p l e R s m args below meth c nL D κ a A kc ks Q σ (o0 :: o1 :: o2 :: o3 :: o4 :: o5 :: o6 :: o7 :: o8 :: o9 :: o10 :: o11 :: o12 :: o13 :: o :: lv) pc (.ref x :: st) :=
  fun ls H locs hl hP hS => lv_astore X.1.1 X.1.2.1 hd hl hn rfl (fun ls2 hl2 => k ls2 H locs (z_as_set (k := 14) (v := .ref x) ho hl2) hP hS)
theorem r_iinc14 (X : z_X p R s m args c cc own nL D κ a A kc ks) {o0 o1 o2 o3 o4 o5 o6 o7 o8 o9 o10 o11 o12 o13 : Option Value} {x n : Int} (hd : decode cc pc = .ok (.iinc 14 n, 3)) (k : z_G p l e R s m args below meth c nL D κ a A kc ks Q σ (o0 :: o1 :: o2 :: o3 :: o4 :: o5 :: o6 :: o7 :: o8 :: o9 :: o10 :: o11 :: o12 :: o13 :: some (.int (zI (x + n))) :: lv) (pc + 3) st) (hn : 14 < nL := by decide) (ho : z_ok (o0 :: o1 :: o2 :: o3 :: o4 :: o5 :: o6 :: o7 :: o8 :: o9 :: o10 :: o11 :: o12 :: o13 :: some (.int (zI x)) :: lv) 14 = true := by rfl) : z_G p l e R s m args below meth c nL D κ a A kc ks Q σ (o0 :: o1 :: o2 :: o3 :: o4 :: o5 :: o6 :: o7 :: o8 :: o9 :: o10 :: o11 :: o12 :: o13 :: some (.int (zI x)) :: lv) pc st := by
  intro ls H locs hl hP hS
  obtain ⟨q, hq⟩ := List.getElem?_of_mem ((z_as_mem (o0 :: o1 :: o2 :: o3 :: o4 :: o5 :: o6 :: o7 :: o8 :: o9 :: o10 :: o11 :: o12 :: o13 :: some (.int (zI x)) :: lv) 0 (14, .int (zI x))).mpr ⟨Nat.zero_le _, rfl⟩)
  exact lv_iinc X.1.1 X.1.2.1 hd hl (k := q) hq (zI_add x n).symm hn rfl (fun ls2 hl2 => k ls2 H locs (z_as_set (k := 14) (v := .int (zI (x + n))) ho hl2) hP hS)
theorem r_iload15 (X : z_X p R s m args c cc own nL D κ a A kc ks) {o0 o1 o2 o3 o4 o5 o6 o7 o8 o9 o10 o11 o12 o13 o14 : Option Value} {x : Int} (hd : decode cc pc = .ok (.iload 15, 2))  (k : z_G p l e R s m args below meth c nL D κ a A kc ks Q σ (o0 :: o1 :: o2 :: o3 :: o4 :: o5 :: o6 :: o7 :: o8 :: o9 :: o10 :: o11 :: o12 :: o13 :: o14 :: some (.int (zI x)) :: lv) (pc + 2) (.int (zI x) :: st)) : z_G p l e R s m args below meth c nL D κ a A kc ks Q σ (o0 :: o1 :: o2 :: o3 :: o4 :: o5 :: o6 :: o7 :: o8 :: o9 :: o10 :: o11 :: o12 :: o13 :: o14 :: some (.int (zI x)) :: lv) pc st :=
  fun ls H locs hl hP hS => lv_iload X.1.1 X.1.2.1 hd (z_as_at hl (k := 15) rfl) (k ls H locs hl hP hS)
theorem r_aload15 (X : z_X p R s m args c cc own nL D κ a A kc ks) {o0 o1 o2 o3 o4 o5 o6 o7 o8 o9 o10 o11 o12 o13 o14 : Option Value} {x : Nat} (hd : decode cc pc = .ok (.aload 15, 2))  (k : z_G p l e R s m args below meth c nL D κ a A kc ks Q σ (o0 :: o1 :: o2 :: o3 :: o4 :: o5 :: o6 :: o7 :: o8 :: o9 :: o10 :: o11 :: o12 :: o13 :: o14 :: some (.ref x) :: lv) (pc + 2) (.ref x :: st)) : z_G p l e R s m args below meth c nL D κ a A kc ks Q σ (o0 :: o1 :: o2 :: o3 :: o4 :: o5 :: o6 :: o7 :: o8 :: o9 :: o10 :: o11 :: o12 :: o13 :: o14 :: some (.ref x) :: lv) pc st :=
  fun ls H locs hl hP hS => lv_aload X.1.1 X.1.2.1 hd (z_as_at hl (k := 15) rfl) (k ls H locs hl hP hS)
theorem r_istore15 (X : z_X p R s m args c cc own nL D κ a A kc ks) {o0 o1 o2 o3 o4 o5 o6 o7 o8 o9 o10 o11 o12 o13 o14 : Option Value} {o : Option Value} {x : Int} (hd : decode cc pc = .ok (.istore 15, 2)) (k : z_G p l e R s m args below meth c nL D κ a A kc ks Q σ (o0 :: o1 :: o2 :: o3 :: o4 :: o5 :: o6 :: o7 :: o8 :: o9 :: o10 :: o11 :: o12 :: o13 :: o14 :: some (.int (zI x)) :: lv) (pc + 2) st) (hn : 15 < nL := by decide) (ho : z_ok (o0 :: o1 :: o2 :: o3 :: o4 :: o5 :: o6 :: o7 :: o8 :: o9 :: o10 :: o11 :: o12 :: o13 :: o14 :: o :: lv) 15 = true := by rfl) : z_G p l e R s m args below meth c nL D κ a A kc ks Q σ (o0 :: o1 :: o2 :: o3 :: o4 :: o5 :: o6 :: o7 :: o8 :: o9 :: o10 :: o11 :: o12 :: o13 :: o14 :: o :: lv) pc (.int (zI x) :: st) :=
  fun ls H locs hl hP hS => lv_istore X.1.1 X.1.2.1 hd hl hn rfl (fun ls2 hl2 => k ls2 H locs (z_as_set (k := 15) (v := .int (zI x)) ho hl2) hP hS)
theorem r_astore15 (X : z_X p R s m args c cc own nL D κ a A kc ks) {o0 o1 o2 o3 o4 o5 o6 o7 o8 o9 o10 o11 o12 o13 o14 : Option Value} {o : Option Value} {x : Nat} (hd : decode cc pc = .ok (.astore 15, 2)) (k : z_G p l e R s m args below meth c nL D κ a A kc ks Q σ (o0 :: o1 :: o2 :: o3 :: o4 :: o5 :: o6 :: o7 :: o8 :: o9 :: o10 :: o11 :: o12 :: o13 :: o14 :: some (.ref x) :: lv) (pc + 2) st) (hn : 15 < nL := by decide) (ho : z_ok (o0 :: o1 :: o2 :: o3 :: o4 :: o5 :: o6 :: o7 :: o8 :: o9 :: o10 :: o11 :: o12 :: o13 :: o14 :: o :: lv) 15 = true := by rfl) : z_G p l e R s m args below meth c nL D κ a A kc ks Q σ (o0 :: o1 :: o2 :: o3 :: o4 :: o5 :: o6 :: o7 :: o8 :: o9 :: o10 :: o11 :: o12 :: o13 :: o14 :: o :: lv) pc (.ref x :: st) :=
  fun ls H locs hl hP hS => lv_astore X.1.1 X.1.2.1 hd hl hn rfl (fun ls2 hl2 => k ls2 H locs (z_as_set (k := 15) (v := .ref x) ho hl2) hP hS)
theorem r_iinc15 (X : z_X p R s m args c cc own nL D κ a A kc ks) {o0 o1 o2 o3 o4 o5 o6 o7 o8 o9 o10 o11 o12 o13 o14 : Option Value} {x n : Int} (hd : decode cc pc = .ok (.iinc 15 n, 3)) (k : z_G p l e R s m args below meth c nL D κ a A kc ks Q σ (o0 :: o1 :: o2 :: o3 :: o4 :: o5 :: o6 :: o7 :: o8 :: o9 :: o10 :: o11 :: o12 :: o13 :: o14 :: some (.int (zI (x + n))) :: lv) (pc + 3) st) (hn : 15 < nL := by decide) (ho : z_ok (o0 :: o1 :: o2 :: o3 :: o4 :: o5 :: o6 :: o7 :: o8 :: o9 :: o10 :: o11 :: o12 :: o13 :: o14 :: some (.int (zI x)) :: lv) 15 = true := by rfl) : z_G p l e R s m args below meth c nL D κ a A kc ks Q σ (o0 :: o1 :: o2 :: o3 :: o4 :: o5 :: o6 :: o7 :: o8 :: o9 :: o10 :: o11 :: o12 :: o13 :: o14 :: some (.int (zI x)) :: lv) pc st := by
  intro ls H locs hl hP hS
  obtain ⟨q, hq⟩ := List.getElem?_of_mem ((z_as_mem (o0 :: o1 :: o2 :: o3 :: o4 :: o5 :: o6 :: o7 :: o8 :: o9 :: o10 :: o11 :: o12 :: o13 :: o14 :: some (.int (zI x)) :: lv) 0 (15, .int (zI x))).mpr ⟨Nat.zero_le _, rfl⟩)
  exact lv_iinc X.1.1 X.1.2.1 hd hl (k := q) hq (zI_add x n).symm hn rfl (fun ls2 hl2 => k ls2 H locs (z_as_set (k := 15) (v := .int (zI (x + n))) ho hl2) hP hS)
theorem r_iload16 (X : z_X p R s m args c cc own nL D κ a A kc ks) {o0 o1 o2 o3 o4 o5 o6 o7 o8 o9 o10 o11 o12 o13 o14 o15 : Option Value} {x : Int} (hd : decode cc pc = .ok (.iload 16, 2))  (k : z_G p l e R s m args below meth c nL D κ a A kc ks Q σ (o0 :: o1 :: o2 :: o3 :: o4 :: o5 :: o6 :: o7 :: o8 :: o9 :: o10 :: o11 :: o12 :: o13 :: o14 :: o15 :: some (.int (zI x)) :: lv) (pc + 2) (.int (zI x) :: st)) : z_G p l e R s m args below meth c nL D κ a A kc ks Q σ (o0 :: o1 :: o2 :: o3 :: o4 :: o5 :: o6 :: o7 :: o8 :: o9 :: o10 :: o11 :: o12 :: o13 :: o14 :: o15 :: some (.int (zI x)) :: lv) pc st :=
  fun ls H locs hl hP hS => lv_iload X.1.1 X.1.2.1 hd (z_as_at hl (k := 16) rfl) (k ls H locs hl hP hS)
theorem r_aload16 (X : z_X p R s m args c cc own nL D κ a A kc ks) {o0 o1 o2 o3 o4 o5 o6 o7 o8 o9 o10 o11 o12 o13 o14 o15 : Option Value} {x : Nat} (hd : decode cc pc = .ok (.aload 16, 2))  (k : z_G p l e R s m args below meth c nL D κ a A kc ks Q σ (o0 :: o1 :: o2 :: o3 :: o4 :: o5 :: o6 :: o7 :: o8 :: o9 :: o10 :: o11 :: o12 :: o13 :: o14 :: o15 :: some (.ref x) :: lv) (pc + 2) (.ref x :: st)) : z_G p l e R s m args below meth c nL D κ a A kc ks Q σ (o0 :: o1 :: o2 :: o3 :: o4 :: o5 :: o6 :: o7 :: o8 :: o9 :: o10 :: o11 :: o12 :: o13 :: o14 :: o15 :: some (.ref x) :: lv) pc st :=
  fun ls H locs hl hP hS => lv_aload X.1.1 X.1.2.1 hd (z_as_at hl (k := 16) rfl) (k ls H locs hl hP hS)
theorem r_istore16 (X : z_X p R s m args c cc own nL D κ a A kc ks) {o0 o1 o2 o3 o4 o5 o6 o7 o8 o9 o10 o11 o12 o13 o14 o15 : Option Value} {o : Option Value} {x : Int} (hd : decode cc pc = .ok (.istore 16, 2)) (k : z_G p l e R s m args below meth c nL D κ a A kc ks Q σ (o0 :: o1 :: o2 :: o3 :: o4 :: o5 :: o6 :: o7 :: o8 :: o9 :: o10 :: o11 :: o12 :: o13 :: o14 :: o15 :: some (.int (zI x)) :: lv) (pc + 2) st) (hn : 16 < nL := by decide) (ho : z_ok (o0 :: o1 :: o2 :: o3 :: o4 :: o5 :: o6 :: o7 :: o8 :: o9 :: o10 :: o11 :: o12 :: o13 :: o14 :: o15 :: o :: lv) 16 = true := by rfl) : z_G p l e R s m args below meth c nL D κ a A kc ks Q σ (o0 :: o1 :: o2 :: o3 :: o4 :: o5 :: o6 :: o7 :: o8 :: o9 :: o10 :: o11 :: o12 :: o13 :: o14 :: o15 :: o :: lv) pc (.int (zI x) :: st) :=
  fun ls H locs hl hP hS => lv_istore X.1.1 X.1.2.1 hd hl hn rfl (fun ls2 hl2 => k ls2 H locs (z_as_set (k := 16) (v := .int (zI x)) ho hl2) hP hS)
theorem r_astore16 (X : z_X p R s m args c cc own nL D κ a A kc ks) {o0 o1 o2 o3 o4 o5 o6 o7 o8 o9 o10 o11 o12 o13 o14 o15 : Option Value} {o : Option Value} {x : Nat} (hd : decode cc pc = .ok (.astore 16, 2)) (k : z_G p l e R s m args below meth c nL D κ a A kc ks Q σ (o0 :: o1 :: o2 :: o3 :: o4 :: o5 :: o6 :: o7 :: o8 :: o9 :: o10 :: o11 :: o12 :: o13 :: o14 :: o15 :: some (.ref x) :: lv) (pc + 2) st) (hn : 16 < nL := by decide) (ho : z_ok (o0 :: o1 :: o2 :: o3 :: o4 :: o5 :: o6 :: o7 :: o8 :: o9 :: o10 :: o11 :: o12 :: o13 :: o14 :: o15 :: o :: lv) 16 = true := by rfl) : z_G p l e R s m args below meth c nL D κ a A kc ks Q σ (o0 :: o1 :: o2 :: o3 :: o4 :: o5 :: o6 :: o7 :: o8 :: o9 :: o10 :: o11 :: o12 :: o13 :: o14 :: o15 :: o :: lv) pc (.ref x :: st) :=
  fun ls H locs hl hP hS => lv_astore X.1.1 X.1.2.1 hd hl hn rfl (fun ls2 hl2 => k ls2 H locs (z_as_set (k := 16) (v := .ref x) ho hl2) hP hS)
theorem r_iinc16 (X : z_X p R s m args c cc own nL D κ a A kc ks) {o0 o1 o2 o3 o4 o5 o6 o7 o8 o9 o10 o11 o12 o13 o14 o15 : Option Value} {x n : Int} (hd : decode cc pc = .ok (.iinc 16 n, 3)) (k : z_G p l e R s m args below meth c nL D κ a A kc ks Q σ (o0 :: o1 :: o2 :: o3 :: o4 :: o5 :: o6 :: o7 :: o8 :: o9 :: o10 :: o11 :: o12 :: o13 :: o14 :: o15 :: some (.int (zI (x + n))) :: lv) (pc + 3) st) (hn : 16 < nL := by decide) (ho : z_ok (o0 :: o1 :: o2 :: o3 :: o4 :: o5 :: o6 :: o7 :: o8 :: o9 :: o10 :: o11 :: o12 :: o13 :: o14 :: o15 :: some (.int (zI x)) :: lv) 16 = true := by rfl) : z_G p l e R s m args below meth c nL D κ a A kc ks Q σ (o0 :: o1 :: o2 :: o3 :: o4 :: o5 :: o6 :: o7 :: o8 :: o9 :: o10 :: o11 :: o12 :: o13 :: o14 :: o15 :: some (.int (zI x)) :: lv) pc st := by
  intro ls H locs hl hP hS
  obtain ⟨q, hq⟩ := List.getElem?_of_mem ((z_as_mem (o0 :: o1 :: o2 :: o3 :: o4 :: o5 :: o6 :: o7 :: o8 :: o9 :: o10 :: o11 :: o12 :: o13 :: o14 :: o15 :: some (.int (zI x)) :: lv) 0 (16, .int (zI x))).mpr ⟨Nat.zero_le _, rfl⟩)
  exact lv_iinc X.1.1 X.1.2.1 hd hl (k := q) hq (zI_add x n).symm hn rfl (fun ls2 hl2 => k ls2 H locs (z_as_set (k := 16) (v := .int (zI (x + n))) ho hl2) hP hS)
theorem r_iload17 (X : z_X p R s m args c cc own nL D κ a A kc ks) {o0 o1 o2 o3 o4 o5 o6 o7 o8 o9 o10 o11 o12 o13 o14 o15 o16 : Option Value} {x : Int} (hd : decode cc pc = .ok (.iload 17, 2))  (k : z_G p l e R s m args below meth c nL D κ a A kc ks Q σ (o0 :: o1 :: o2 :: o3 :: o4 :: o5 :: o6 :: o7 :: o8 :: o9 :: o10 :: o11 :: o12 :: o13 :: o14 :: o15 :: o16 :: some (.int (zI x)) :: lv) (pc + 2) (.int (zI x) :: st)) : z_G p l e R s m args below meth c nL D κ a A kc ks Q σ (o0 :: o1 :: o2 :: o3 :: o4 :: o5 :: o6 :: o7 :: o8 :: o9 :: o10 :: o11 :: o12 :: o13 :: o14 :: o15 :: o16 :: some (.int (zI x)) :: lv) pc st :=
  fun ls H locs hl hP hS => lv_iload X.1.1 X.1.2.1 hd (z_as_at hl (k := 17) rfl) (k ls H locs hl hP hS)
theorem r_aload17 (X : z_X p R s m args c cc own nL D κ a A kc ks) {o0 o1 o2 o3 o4 o5 o6 o7 o8 o9 o10 o11 o12 o13 o14 o15 o16 : Option Value} {x : Nat} (hd : decode cc pc = .ok (.aload 17, 2))  (k : z_G p l e R s m args below meth c nL D κ a A kc ks Q σ (o0 :: o1 :: o2 :: o3 :: o4 :: o5 :: o6 :: o7 :: o8 :: o9 :: o10 :: o11 :: o12 :: o13 :: o14 :: o15 :: o16 :: some (.ref x) :: lv) (pc + 2) (.ref x :: st)) : z_G p l e R s m args below meth c nL D κ a A kc ks Q σ (o0 :: o1 :: o2 :: o3 :: o4 :: o5 :: o6 :: o7 :: o8 :: o9 :: o10 :: o11 :: o12 :: o13 :: o14 :: o15 :: o16 :: some (.ref x) :: lv) pc st :=
  fun ls H locs hl hP hS => lv_aload X.1.1 X.1.2.1 hd (z_as_at hl (k := 17) rfl) (k ls H locs hl hP hS)
theorem r_istore17 (X : z_X p R s m args c cc own nL D κ a A kc ks) {o0 o1 o2 o3 o4 o5 o6 o7 o8 o9 o10 o11 o12 o13 o14 o15 o16 : Option Value} {o : Option Value} {x : Int} (hd : decode cc pc = .ok (.istore 17, 2)) (k : z_G p l e R s m args below meth c nL D κ a A kc ks Q σ (o0 :: o1 :: o2 :: o3 :: o4 :: o5 :: o6 :: o7 :: o8 :: o9 :: o10 :: o11 :: o12 :: o13 :: o14 :: o15 :: o16 :: some (.int (zI x)) :: lv) (pc + 2) st) (hn : 17 < nL := by decide) (ho : z_ok (o0 :: o1 :: o2 :: o3 :: o4 :: o5 :: o6 :: o7 :: o8 :: o9 :: o10 :: o11 :: o12 :: o13 :: o14 :: o15 :: o16 :: o :: lv) 17 = true := by rfl) : z_G p l e R s m args below meth c nL D κ a A kc ks Q σ (o0 :: o1 :: o2 :: o3 :: o4 :: o5 :: o6 :: o7 :: o8 :: o9 :: o10 :: o11 :: o12 :: o13 :: o14 :: o15 :: o16 :: o :: lv) pc (.int (zI x) :: st) :=
  fun ls H locs hl hP hS => lv_istore X.1.1 X.1.2.1 hd hl hn rfl (fun ls2 hl2 => k ls2 H locs (z_as_set (k := 17) (v := .int (zI x)) ho hl2) hP hS)
theorem r_astore17 (X : z_X p R s m args c cc own nL D κ a A kc ks) {o0 o1 o2 o3 o4 o5 o6 o7 o8 o9 o10 o11 o12 o13 o14 o15 o16 : Option Value} {o : Option Value} {x : Nat} (hd : decode cc pc = .ok (.astore 17, 2)) (k : z_G p l e R s m args below meth c nL D κ a A kc ks Q σ (o0 :: o1 :: o2 :: o3 :: o4 :: o5 :: o6 :: o7 :: o8 :: o9 :: o10 :: o11 :: o12 :: o13 :: o14 :: o15 :: o16 :: some (.ref x) :: lv) (pc + 2) st) (hn : 17 < nL := by decide) (ho : z_ok (o0 :: o1 :: o2 :: o3 :: o4 :: o5 :: o6 :: o7 :: o8 :: o9 :: o10 :: o11 :: o12 :: o13 :: o14 :: o15 :: o16 :: o :: lv) 17 = true := by rfl) : z_G p l e R s m args below meth c nL D κ a A kc ks Q σ (o0 :: o1 :: o2 :: o3 :: o4 :: o5 :: o6 :: o7 :: o8 :: o9 :: o10 :: o11 :: o12 :: o13 :: o14 :: o15 :: o16 :: o :: lv) pc (.ref x :: st) :=
  fun ls H locs hl hP hS => lv_astore X.1.1 X.1.2.1 hd hl hn rfl (fun ls2 hl2 => k ls2 H locs (z_as_set (k := 17) (v := .ref x) ho hl2) hP hS)
theorem r_iinc17 (X : z_X p R s m args c cc own nL D κ a A kc ks) {o0 o1 o2 o3 o4 o5 o6 o7 o8 o9 o10 o11 o12 o13 o14 o15 o16 : Option Value} {x n : Int} (hd : decode cc pc = .ok (.iinc 17 n, 3)) (k : z_G p l e R s m args below meth c nL D κ a A kc ks Q σ (o0 :: o1 :: o2 :: o3 :: o4 :: o5 :: o6 :: o7 :: o8 :: o9 :: o10 :: o11 :: o12 :: o13 :: o14 :: o15 :: o16 :: some (.int (zI (x + n))) :: lv) (pc + 3) st) (hn : 17 < nL := by decide) (ho : z_ok (o0 :: o1 :: o2 :: o3 :: o4 :: o5 :: o6 :: o7 :: o8 :: o9 :: o10 :: o11 :: o12 :: o13 :: o14 :: o15 :: o16 :: some (.int (zI x)) :: lv) 17 = true := by rfl) : z_G p l e R s m args below meth c nL D κ a A kc ks Q σ (o0 :: o1 :: o2 :: o3 :: o4 :: o5 :: o6 :: o7 :: o8 :: o9 :: o10 :: o11 :: o12 :: o13 :: o14 :: o15 :: o16 :: some (.int (zI x)) :: lv) pc st := by
  intro ls H locs hl hP hS
  obtain ⟨q, hq⟩ := List.getElem?_of_mem ((z_as_mem (o0 :: o1 :: o2 :: o3 :: o4 :: o5 :: o6 :: o7 :: o8 :: o9 :: o10 :: o11 :: o12 :: o13 :: o14 :: o15 :: o16 :: some (.int (zI x)) :: lv) 0 (17, .int (zI x))).mpr ⟨Nat.zero_le _, rfl⟩)
  exact lv_iinc X.1.1 X.1.2.1 hd hl (k := q) hq (zI_add x n).symm hn rfl (fun ls2 hl2 => k ls2 H locs (z_as_set (k := 17) (v := .int (zI (x + n))) ho hl2) hP hS)
theorem r_iadd (X : z_X p R s m args c cc own nL D κ a A kc ks) {x y : Int} (hd : decode cc pc = .ok (.iadd, 1))  (k : z_G p l e R s m args below meth c nL D κ a A kc ks Q σ lv (pc + 1) (.int (zI (x + y)) :: st)) : z_G p l e R s m args below meth c nL D κ a A kc ks Q σ lv pc (.int (zI y) :: .int (zI x) :: st) :=
  fun ls H locs hl hP hS => lv_iadd X.1.1 X.1.2.1 hd (by rw [← zI_add]; exact k ls H locs hl hP hS)
theorem r_isub (X : z_X p R s m args c cc own nL D κ a A kc ks) {x y : Int} (hd : decode cc pc = .ok (.isub, 1))  (k : z_G p l e R s m args below meth c nL D κ a A kc ks Q σ lv (pc + 1) (.int (zI (x - y)) :: st)) : z_G p l e R s m args below meth c nL D κ a A kc ks Q σ lv pc (.int (zI y) :: .int (zI x) :: st) :=
  fun ls H locs hl hP hS => lv_isub X.1.1 X.1.2.1 hd (by rw [← zI_sub]; exact k ls H locs hl hP hS)
theorem r_imul (X : z_X p R s m args c cc own nL D κ a A kc ks) {x y : Int} (hd : decode cc pc = .ok (.imul, 1))  (k : z_G p l e R s m args below meth c nL D κ a A kc ks Q σ lv (pc + 1) (.int (zI (x * y)) :: st)) : z_G p l e R s m args below meth c nL D κ a A kc ks Q σ lv pc (.int (zI y) :: .int (zI x) :: st) :=
  fun ls H locs hl hP hS => lv_imul X.1.1 X.1.2.1 hd (by rw [← zI_mul]; exact k ls H locs hl hP hS)
theorem r_ineg (X : z_X p R s m args c cc own nL D κ a A kc ks) {x : Int} (hd : decode cc pc = .ok (.ineg, 1))  (k : z_G p l e R s m args below meth c nL D κ a A kc ks Q σ lv (pc + 1) (.int (zI (-x)) :: st)) : z_G p l e R s m args below meth c nL D κ a A kc ks Q σ lv pc (.int (zI x) :: st) :=
  fun ls H locs hl hP hS => lv_ineg X.1.1 X.1.2.1 hd (by rw [← zI_neg]; exact k ls H locs hl hP hS)
theorem r_ladd (X : z_X p R s m args c cc own nL D κ a A kc ks) {x y : Int} (hd : decode cc pc = .ok (.ladd, 1))  (k : z_G p l e R s m args below meth c nL D κ a A kc ks Q σ lv (pc + 1) (.long (zL (x + y)) :: st)) : z_G p l e R s m args below meth c nL D κ a A kc ks Q σ lv pc (.long (zL y) :: .long (zL x) :: st) :=
  fun ls H locs hl hP hS => lv_ladd X.1.1 X.1.2.1 hd (by rw [← zL_add]; exact k ls H locs hl hP hS)
theorem zI_toL {x : Int} (h : z_in x) : (zI x).toInt64 = zL x := by
  apply Int64.toInt_inj.mp
  rw [Int32.toInt_toInt64, zI_toInt h]
  exact (Int64.toInt_ofInt_of_le (by have := h.1; omega) (by have := h.2; omega)).symm
abbrev z_inL (x : Int) : Prop := -9223372036854775808 ≤ x ∧ x ≤ 9223372036854775807
theorem zL_toInt {x : Int} (h : z_inL x) : (zL x).toInt = x := Int64.toInt_ofInt_of_le (by have := h.1; omega) (by have := h.2; omega)
theorem zL_toI {x : Int} (h : z_inL x) : (zL x).toInt32 = zI x := by
  apply Int32.toInt_inj.mp
  rw [Int64.toInt_toInt32, zL_toInt h]
  exact (Int32.toInt_ofInt (n := x)).symm
theorem zL_lt {x y : Int} (hx : z_inL x) (hy : z_inL y) : zL x < zL y ↔ x < y := by rw [Int64.lt_iff_toInt_lt, zL_toInt hx, zL_toInt hy]
theorem zL_eq {x y : Int} (hx : z_inL x) (hy : z_inL y) : zL x = zL y ↔ x = y := ⟨fun h => by have := congrArg Int64.toInt h; rwa [zL_toInt hx, zL_toInt hy] at this, fun h => by rw [h]⟩
def z_cmp (x y : Int) : Int := if y < x then 1 else if x = y then 0 else -1
theorem z_cmp_ok {x y : Int} (hx : z_inL x) (hy : z_inL y) : lg_cmp (zL x) (zL y) = zI (z_cmp x y) := by
  unfold lg_cmp z_cmp
  by_cases h1 : y < x
  · simp [(zL_lt hy hx).mpr h1, h1]
    decide +kernel
  · have h1' : ¬ zL y < zL x := fun q => h1 ((zL_lt hy hx).mp q)
    by_cases h2 : x = y
    · simp [h2]
      decide +kernel
    · have h2' : ¬ zL x = zL y := fun q => h2 ((zL_eq hx hy).mp q)
      simp [h1, h1', h2, h2']
      decide +kernel
/-! truth as a number -/
def zB (P : Prop) [Decidable P] : Int := if P then 1 else 0
theorem zB_t {P : Prop} [Decidable P] (h : P) : zB P = 1 := if_pos h
theorem zB_f {P : Prop} [Decidable P] (h : ¬ P) : zB P = 0 := if_neg h
theorem zB_in (P : Prop) [Decidable P] : 0 ≤ zB P ∧ zB P ≤ 1 := by unfold zB; split <;> omega
theorem zB_eq0 {P : Prop} [Decidable P] : zB P = 0 ↔ ¬ P := by unfold zB; split <;> simp_all
theorem zB_c {P P' : Prop} [Decidable P] [Decidable P'] (h : P ↔ P') : zB P = zB P' := by unfold zB; simp [h]

theorem r_i2l (X : z_X p R s m args c cc own nL D κ a A kc ks) {x : Int} (hd : decode cc pc = .ok (.i2l, 1)) (hr : z_in x := by omega) (k : z_G p l e R s m args below meth c nL D κ a A kc ks Q σ lv (pc + 1) (.long (zL x) :: st)) : z_G p l e R s m args below meth c nL D κ a A kc ks Q σ lv pc (.int (zI x) :: st) :=
  fun ls H locs hl hP hS => lv_i2l X.1.1 X.1.2.1 hd (zI_toL hr) (k ls H locs hl hP hS)
theorem r_l2i (X : z_X p R s m args c cc own nL D κ a A kc ks) {x : Int} (hd : decode cc pc = .ok (.l2i, 1)) (hr : z_inL x := by omega) (k : z_G p l e R s m args below meth c nL D κ a A kc ks Q σ lv (pc + 1) (.int (zI x) :: st)) : z_G p l e R s m args below meth c nL D κ a A kc ks Q σ lv pc (.long (zL x) :: st) :=
  fun ls H locs hl hP hS => lv_l2i X.1.1 X.1.2.1 hd (zL_toI hr) (k ls H locs hl hP hS)
theorem r_lcmp (X : z_X p R s m args c cc own nL D κ a A kc ks) {x y : Int} (hd : decode cc pc = .ok (.lcmp, 1)) (hx : z_inL x := by omega) (hy : z_inL y := by omega) (k : z_G p l e R s m args below meth c nL D κ a A kc ks Q σ lv (pc + 1) (.int (zI (z_cmp x y)) :: st)) : z_G p l e R s m args below meth c nL D κ a A kc ks Q σ lv pc (.long (zL y) :: .long (zL x) :: st) :=
  fun ls H locs hl hP hS => W.lcmp X.1.1 X.1.2.1 hd (by rw [z_cmp_ok hx hy]; exact k ls H locs hl hP hS)
theorem r_dup (X : z_X p R s m args c cc own nL D κ a A kc ks) {v : Value} (hd : decode cc pc = .ok (.dup, 1)) (hv : v.category = 1 := by rfl) (k : z_G p l e R s m args below meth c nL D κ a A kc ks Q σ lv (pc + 1) (v :: v :: st)) : z_G p l e R s m args below meth c nL D κ a A kc ks Q σ lv pc (v :: st) :=
  fun ls H locs hl hP hS => lv_dup X.1.1 X.1.2.1 hd hv (k ls H locs hl hP hS)
theorem r_dup2 (X : z_X p R s m args c cc own nL D κ a A kc ks) {v w : Value} (hd : decode cc pc = .ok (.dup2, 1)) (hv : v.category = 1 := by rfl) (hw : w.category = 1 := by rfl) (k : z_G p l e R s m args below meth c nL D κ a A kc ks Q σ lv (pc + 1) (v :: w :: v :: w :: st)) : z_G p l e R s m args below meth c nL D κ a A kc ks Q σ lv pc (v :: w :: st) :=
  fun ls H locs hl hP hS => lv_dup2_11 X.1.1 X.1.2.1 hd hv hw (k ls H locs hl hP hS)
theorem r_goto (X : z_X p R s m args c cc own nL D κ a A kc ks) {off : Int} {tgt : Nat} (hd : decode cc pc = .ok (.goto off, 3)) (ht : (pc : Int) + off = (tgt : Int) := by decide) (k : z_G p l e R s m args below meth c nL D κ a A kc ks Q σ lv tgt st) : z_G p l e R s m args below meth c nL D κ a A kc ks Q σ lv pc st :=
  fun ls H locs hl hP hS => lv_goto X.1.1 X.1.2.1 hd ht (k ls H locs hl hP hS)
theorem r_icmp_eq (X : z_X p R s m args c cc own nL D κ a A kc ks) {x y : Int} {off : Int} {tgt : Nat} (hd : decode cc pc = .ok (.if_icmp .eq off, 3)) (hr : z_in x ∧ z_in y) (kt : x = y → z_G p l e R s m args below meth c nL D κ a A kc ks Q σ lv tgt st) (kf : x ≠ y → z_G p l e R s m args below meth c nL D κ a A kc ks Q σ lv (pc + 3) st) (ht : (pc : Int) + off = (tgt : Int) := by decide) : z_G p l e R s m args below meth c nL D κ a A kc ks Q σ lv pc (.int (zI y) :: .int (zI x) :: st) :=
  fun ls H locs hl hP hS => lv_icmp_eq X.1.1 X.1.2.1 hd ht (fun h => kt ((zI_eq hr.1 hr.2).mp h) ls H locs hl hP hS) (fun h => kf (fun q => h ((zI_eq hr.1 hr.2).mpr q)) ls H locs hl hP hS)
theorem r_icmp_lt (X : z_X p R s m args c cc own nL D κ a A kc ks) {x y : Int} {off : Int} {tgt : Nat} (hd : decode cc pc = .ok (.if_icmp .lt off, 3)) (hr : z_in x ∧ z_in y) (kt : x < y → z_G p l e R s m args below meth c nL D κ a A kc ks Q σ lv tgt st) (kf : y ≤ x → z_G p l e R s m args below meth c nL D κ a A kc ks Q σ lv (pc + 3) st) (ht : (pc : Int) + off = (tgt : Int) := by decide) : z_G p l e R s m args below meth c nL D κ a A kc ks Q σ lv pc (.int (zI y) :: .int (zI x) :: st) :=
  fun ls H locs hl hP hS => lv_icmp_lt X.1.1 X.1.2.1 hd ht (fun h => kt ((zI_lt hr.1 hr.2).mp h) ls H locs hl hP hS) (fun h => kf (Int.not_lt.mp (fun q => h ((zI_lt hr.1 hr.2).mpr q))) ls H locs hl hP hS)
theorem r_icmp_le (X : z_X p R s m args c cc own nL D κ a A kc ks) {x y : Int} {off : Int} {tgt : Nat} (hd : decode cc pc = .ok (.if_icmp .le off, 3)) (hr : z_in x ∧ z_in y) (kt : x ≤ y → z_G p l e R s m args below meth c nL D κ a A kc ks Q σ lv tgt st) (kf : y < x → z_G p l e R s m args below meth c nL D κ a A kc ks Q σ lv (pc + 3) st) (ht : (pc : Int) + off = (tgt : Int) := by decide) : z_G p l e R s m args below meth c nL D κ a A kc ks Q σ lv pc (.int (zI y) :: .int (zI x) :: st) :=
  fun ls H locs hl hP hS => lv_icmp_le X.1.1 X.1.2.1 hd ht (fun h => kt ((zI_le hr.1 hr.2).mp h) ls H locs hl hP hS) (fun h => kf (Int.not_le.mp (fun q => h ((zI_le hr.1 hr.2).mpr q))) ls H locs hl hP hS)
theorem r_icmp_ne (X : z_X p R s m args c cc own nL D κ a A kc ks) {x y : Int} {off : Int} {tgt : Nat} (hd : decode cc pc = .ok (.if_icmp .ne off, 3)) (hr : z_in x ∧ z_in y) (kt : x ≠ y → z_G p l e R s m args below meth c nL D κ a A kc ks Q σ lv tgt st) (kf : x = y → z_G p l e R s m args below meth c nL D κ a A kc ks Q σ lv (pc + 3) st) (ht : (pc : Int) + off = (tgt : Int) := by decide) : z_G p l e R s m args below meth c nL D κ a A kc ks Q σ lv pc (.int (zI y) :: .int (zI x) :: st) :=
  fun ls H locs hl hP hS => lv_icmp_ne X.1.1 X.1.2.1 hd ht (fun h => kt (fun q => h ((zI_eq hr.1 hr.2).mpr q)) ls H locs hl hP hS) (fun h => kf ((zI_eq hr.1 hr.2).mp h) ls H locs hl hP hS)
theorem r_icmp_ge (X : z_X p R s m args c cc own nL D κ a A kc ks) {x y : Int} {off : Int} {tgt : Nat} (hd : decode cc pc = .ok (.if_icmp .ge off, 3)) (hr : z_in x ∧ z_in y) (kt : y ≤ x → z_G p l e R s m args below meth c nL D κ a A kc ks Q σ lv tgt st) (kf : x < y → z_G p l e R s m args below meth c nL D κ a A kc ks Q σ lv (pc + 3) st) (ht : (pc : Int) + off = (tgt : Int) := by decide) : z_G p l e R s m args below meth c nL D κ a A kc ks Q σ lv pc (.int (zI y) :: .int (zI x) :: st) :=
  fun ls H locs hl hP hS => lv_icmp_ge X.1.1 X.1.2.1 hd ht (fun h => kt ((zI_le hr.2 hr.1).mp h) ls H locs hl hP hS) (fun h => kf (Int.not_le.mp (fun q => h ((zI_le hr.2 hr.1).mpr q))) ls H locs hl hP hS)
theorem r_icmp_gt (X : z_X p R s m args c cc own nL D κ a A kc ks) {x y : Int} {off : Int} {tgt : Nat} (hd : decode cc pc = .ok (.if_icmp .gt off, 3)) (hr : z_in x ∧ z_in y) (kt : y < x → z_G p l e R s m args below meth c nL D κ a A kc ks Q σ lv tgt st) (kf : x ≤ y → z_G p l e R s m args below meth c nL D κ a A kc ks Q σ lv (pc + 3) st) (ht : (pc : Int) + off = (tgt : Int) := by decide) : z_G p l e R s m args below meth c nL D κ a A kc ks Q σ lv pc (.int (zI y) :: .int (zI x) :: st) :=
  fun ls H locs hl hP hS => lv_icmp_gt X.1.1 X.1.2.1 hd ht (fun h => kt ((zI_lt hr.2 hr.1).mp h) ls H locs hl hP hS) (fun h => kf (Int.not_lt.mp (fun q => h ((zI_lt hr.2 hr.1).mpr q))) ls H locs hl hP hS)
theorem r_if_eq (X : z_X p R s m args c cc own nL D κ a A kc ks) {x : Int} {off : Int} {tgt : Nat} (hd : decode cc pc = .ok (.ifCond .eq off, 3)) (hr : z_in x) (kt : x = 0 → z_G p l e R s m args below meth c nL D κ a A kc ks Q σ lv tgt st) (kf : x ≠ 0 → z_G p l e R s m args below meth c nL D κ a A kc ks Q σ lv (pc + 3) st) (ht : (pc : Int) + off = (tgt : Int) := by decide) : z_G p l e R s m args below meth c nL D κ a A kc ks Q σ lv pc (.int (zI x) :: st) :=
  fun ls H locs hl hP hS => lv_if_eq X.1.1 X.1.2.1 hd ht (fun h => kt ((zI_eq0 hr).mp h) ls H locs hl hP hS) (fun h => kf (fun q => h ((zI_eq0 hr).mpr q)) ls H locs hl hP hS)
theorem r_if_ne (X : z_X p R s m args c cc own nL D κ a A kc ks) {x : Int} {off : Int} {tgt : Nat} (hd : decode cc pc = .ok (.ifCond .ne off, 3)) (hr : z_in x) (kt : x ≠ 0 → z_G p l e R s m args below meth c nL D κ a A kc ks Q σ lv tgt st) (kf : x = 0 → z_G p l e R s m args below meth c nL D κ a A kc ks Q σ lv (pc + 3) st) (ht : (pc : Int) + off = (tgt : Int) := by decide) : z_G p l e R s m args below meth c nL D κ a A kc ks Q σ lv pc (.int (zI x) :: st) :=
  fun ls H locs hl hP hS => lv_if_ne X.1.1 X.1.2.1 hd ht (fun h => kt (fun q => h ((zI_eq0 hr).mpr q)) ls H locs hl hP hS) (fun h => kf ((zI_eq0 hr).mp h) ls H locs hl hP hS)
theorem r_if_lt (X : z_X p R s m args c cc own nL D κ a A kc ks) {x : Int} {off : Int} {tgt : Nat} (hd : decode cc pc = .ok (.ifCond .lt off, 3)) (hr : z_in x) (kt : x < 0 → z_G p l e R s m args below meth c nL D κ a A kc ks Q σ lv tgt st) (kf : 0 ≤ x → z_G p l e R s m args below meth c nL D κ a A kc ks Q σ lv (pc + 3) st) (ht : (pc : Int) + off = (tgt : Int) := by decide) : z_G p l e R s m args below meth c nL D κ a A kc ks Q σ lv pc (.int (zI x) :: st) :=
  fun ls H locs hl hP hS => lv_if_lt X.1.1 X.1.2.1 hd ht (fun h => kt ((zI_lt0 hr).mp h) ls H locs hl hP hS) (fun h => kf (Int.not_lt.mp (fun q => h ((zI_lt0 hr).mpr q))) ls H locs hl hP hS)
theorem r_if_ge (X : z_X p R s m args c cc own nL D κ a A kc ks) {x : Int} {off : Int} {tgt : Nat} (hd : decode cc pc = .ok (.ifCond .ge off, 3)) (hr : z_in x) (kt : 0 ≤ x → z_G p l e R s m args below meth c nL D κ a A kc ks Q σ lv tgt st) (kf : x < 0 → z_G p l e R s m args below meth c nL D κ a A kc ks Q σ lv (pc + 3) st) (ht : (pc : Int) + off = (tgt : Int) := by decide) : z_G p l e R s m args below meth c nL D κ a A kc ks Q σ lv pc (.int (zI x) :: st) :=
  fun ls H locs hl hP hS => lv_if_ge X.1.1 X.1.2.1 hd ht (fun h => kt ((zI_0le hr).mp h) ls H locs hl hP hS) (fun h => kf (Int.not_le.mp (fun q => h ((zI_0le hr).mpr q))) ls H locs hl hP hS)
theorem r_if_gt (X : z_X p R s m args c cc own nL D κ a A kc ks) {x : Int} {off : Int} {tgt : Nat} (hd : decode cc pc = .ok (.ifCond .gt off, 3)) (hr : z_in x) (kt : 0 < x → z_G p l e R s m args below meth c nL D κ a A kc ks Q σ lv tgt st) (kf : x ≤ 0 → z_G p l e R s m args below meth c nL D κ a A kc ks Q σ lv (pc + 3) st) (ht : (pc : Int) + off = (tgt : Int) := by decide) : z_G p l e R s m args below meth c nL D κ a A kc ks Q σ lv pc (.int (zI x) :: st) :=
  fun ls H locs hl hP hS => lv_if_gt X.1.1 X.1.2.1 hd ht (fun h => kt ((zI_0lt hr).mp h) ls H locs hl hP hS) (fun h => kf (Int.not_lt.mp (fun q => h ((zI_0lt hr).mpr q))) ls H locs hl hP hS)
theorem r_if_le (X : z_X p R s m args c cc own nL D κ a A kc ks) {x : Int} {off : Int} {tgt : Nat} (hd : decode cc pc = .ok (.ifCond .le off, 3)) (hr : z_in x) (kt : x ≤ 0 → z_G p l e R s m args below meth c nL D κ a A kc ks Q σ lv tgt st) (kf : 0 < x → z_G p l e R s m args below meth c nL D κ a A kc ks Q σ lv (pc + 3) st) (ht : (pc : Int) + off = (tgt : Int) := by decide) : z_G p l e R s m args below meth c nL D κ a A kc ks Q σ lv pc (.int (zI x) :: st) :=
  fun ls H locs hl hP hS => lv_if_le X.1.1 X.1.2.1 hd ht (fun h => kt ((zI_le0 hr).mp h) ls H locs hl hP hS) (fun h => kf (Int.not_le.mp (fun q => h ((zI_le0 hr).mpr q))) ls H locs hl hP hS)
theorem r_if_eqB (X : z_X p R s m args c cc own nL D κ a A kc ks) {P : Prop} [Decidable P] {off : Int} {tgt : Nat} (hd : decode cc pc = .ok (.ifCond .eq off, 3)) (kt : ¬ P → z_G p l e R s m args below meth c nL D κ a A kc ks Q σ lv tgt st) (kf : P → z_G p l e R s m args below meth c nL D κ a A kc ks Q σ lv (pc + 3) st) (ht : (pc : Int) + off = (tgt : Int) := by decide) : z_G p l e R s m args below meth c nL D κ a A kc ks Q σ lv pc (.int (zI (zB P)) :: st) :=
  r_if_eq X hd (by have := zB_in P; omega) (fun h => kt (zB_eq0.mp h)) (fun h => kf (Decidable.byContradiction (fun q => h (zB_eq0.mpr q)))) ht
theorem r_if_neB (X : z_X p R s m args c cc own nL D κ a A kc ks) {P : Prop} [Decidable P] {off : Int} {tgt : Nat} (hd : decode cc pc = .ok (.ifCond .ne off, 3)) (kt : P → z_G p l e R s m args below meth c nL D κ a A kc ks Q σ lv tgt st) (kf : ¬ P → z_G p l e R s m args below meth c nL D κ a A kc ks Q σ lv (pc + 3) st) (ht : (pc : Int) + off = (tgt : Int) := by decide) : z_G p l e R s m args below meth c nL D κ a A kc ks Q σ lv pc (.int (zI (zB P)) :: st) :=
  r_if_ne X hd (by have := zB_in P; omega) (fun h => kt (Decidable.byContradiction (fun q => h (zB_eq0.mpr q)))) (fun h => kf (zB_eq0.mp h)) ht
theorem z_cmp_in (x y : Int) : -1 ≤ z_cmp x y ∧ z_cmp x y ≤ 1 := by unfold z_cmp; split <;> (try split) <;> omega
theorem z_cmp_lt (x y : Int) : z_cmp x y < 0 ↔ x < y := by unfold z_cmp; split <;> (try split) <;> omega
theorem z_cmp_gt (x y : Int) : 0 < z_cmp x y ↔ y < x := by unfold z_cmp; split <;> (try split) <;> omega
theorem z_cmp_eq (x y : Int) : z_cmp x y = 0 ↔ x = y := by unfold z_cmp; split <;> (try split) <;> omega
theorem r_if_ltC (X : z_X p R s m args c cc own nL D κ a A kc ks) {x y : Int} {off : Int} {tgt : Nat} (hd : decode cc pc = .ok (.ifCond .lt off, 3)) (kt : x < y → z_G p l e R s m args below meth c nL D κ a A kc ks Q σ lv tgt st) (kf : y ≤ x → z_G p l e R s m args below meth c nL D κ a A kc ks Q σ lv (pc + 3) st) (ht : (pc : Int) + off = (tgt : Int) := by decide) : z_G p l e R s m args below meth c nL D κ a A kc ks Q σ lv pc (.int (zI (z_cmp x y)) :: st) :=
  r_if_lt X hd (by have := z_cmp_in x y; omega) (fun h => kt ((z_cmp_lt x y).mp h)) (fun h => kf (Int.not_lt.mp (fun q => by have := (z_cmp_lt x y).mpr q; omega))) ht
theorem r_if_gtC (X : z_X p R s m args c cc own nL D κ a A kc ks) {x y : Int} {off : Int} {tgt : Nat} (hd : decode cc pc = .ok (.ifCond .gt off, 3)) (kt : y < x → z_G p l e R s m args below meth c nL D κ a A kc ks Q σ lv tgt st) (kf : x ≤ y → z_G p l e R s m args below meth c nL D κ a A kc ks Q σ lv (pc + 3) st) (ht : (pc : Int) + off = (tgt : Int) := by decide) : z_G p l e R s m args below meth c nL D κ a A kc ks Q σ lv pc (.int (zI (z_cmp x y)) :: st) :=
  r_if_gt X hd (by have := z_cmp_in x y; omega) (fun h => kt ((z_cmp_gt x y).mp h)) (fun h => kf (Int.not_lt.mp (fun q => by have := (z_cmp_gt x y).mpr q; omega))) ht
theorem r_if_neC (X : z_X p R s m args c cc own nL D κ a A kc ks) {x y : Int} {off : Int} {tgt : Nat} (hd : decode cc pc = .ok (.ifCond .ne off, 3)) (kt : x ≠ y → z_G p l e R s m args below meth c nL D κ a A kc ks Q σ lv tgt st) (kf : x = y → z_G p l e R s m args below meth c nL D κ a A kc ks Q σ lv (pc + 3) st) (ht : (pc : Int) + off = (tgt : Int) := by decide) : z_G p l e R s m args below meth c nL D κ a A kc ks Q σ lv pc (.int (zI (z_cmp x y)) :: st) :=
  r_if_ne X hd (by have := z_cmp_in x y; omega) (fun h => kt (fun q => h ((z_cmp_eq x y).mpr q))) (fun h => kf ((z_cmp_eq x y).mp h)) ht
theorem r_if_eqC (X : z_X p R s m args c cc own nL D κ a A kc ks) {x y : Int} {off : Int} {tgt : Nat} (hd : decode cc pc = .ok (.ifCond .eq off, 3)) (kt : x = y → z_G p l e R s m args below meth c nL D κ a A kc ks Q σ lv tgt st) (kf : x ≠ y → z_G p l e R s m args below meth c nL D κ a A kc ks Q σ lv (pc + 3) st) (ht : (pc : Int) + off = (tgt : Int) := by decide) : z_G p l e R s m args below meth c nL D κ a A kc ks Q σ lv pc (.int (zI (z_cmp x y)) :: st) :=
  r_if_eq X hd (by have := z_cmp_in x y; omega) (fun h => kt ((z_cmp_eq x y).mp h)) (fun h => kf (fun q => h ((z_cmp_eq x y).mpr q))) ht
end ZR
