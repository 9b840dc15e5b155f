section ZM
variable {p : Program} {l : Launch} {e : Env} {R : Room} {s : State} {m : MethodId} {args : Array Value} {below : List Frame} {meth : Method} {c : Code} {cc : ByteArray} {own : String} {nL : Nat} {D : va_G} {κ : Nat → ClassId} {a : Nat → Nat} {A : Nat → Prop} {kc ks : Nat} {Q : State → Prop}
variable {σ : zSt} {lv : List (Option Value)} {pc : Nat} {st : List Value}
theorem z_c0 (f : Int → Int) : z_ce κ a 0 f = .inr (5, z_fMain a f) := rfl
theorem z_c49 (f : Int → Int) : z_ce κ a 49 f = .inr (3, z_fShape a f) := rfl
theorem z_c50 (f : Int → Int) : z_ce κ a 50 f = z_eI κ 7 f := rfl
theorem z_c51 (f : Int → Int) : z_ce κ a 51 f = z_eI κ 7 f := rfl
theorem z_c72 (f : Int → Int) : z_ce κ a 72 f = .inr (2, z_fSearch a f) := rfl
theorem z_c73 (f : Int → Int) : z_ce κ a 73 f = z_eI κ 6 f := rfl
theorem z_c74 (f : Int → Int) : z_ce κ a 74 f = z_eI κ 6 f := rfl
theorem z_c75 (f : Int → Int) : z_ce κ a 75 f = z_eI κ 6 f := rfl
theorem z_c76 (f : Int → Int) : z_ce κ a 76 f = z_eI κ 6 f := rfl
theorem z_c77 (f : Int → Int) : z_ce κ a 77 f = z_eI κ 6 f := rfl
theorem z_c78 (f : Int → Int) : z_ce κ a 78 f = z_eI κ 42 f := rfl
theorem z_c79 (f : Int → Int) : z_ce κ a 79 f = z_eI κ 1764 f := rfl
theorem z_c80 (f : Int → Int) : z_ce κ a 80 f = .inr (6, z_fModel a f) := rfl
theorem z_c81 (f : Int → Int) : z_ce κ a 81 f = z_eI κ 6 f := rfl
theorem z_c82 (f : Int → Int) : z_ce κ a 82 f = z_eI κ 12 f := rfl
theorem z_c83 (f : Int → Int) : z_ce κ a 83 f = z_eI κ 10 f := rfl
theorem z_c84 (f : Int → Int) : z_ce κ a 84 f = z_eI κ 105 f := rfl
theorem z_c85 (f : Int → Int) : z_ce κ a 85 f = z_eI κ 133 f := rfl
theorem z_c86 (f : Int → Int) : z_ce κ a 86 f = z_eL κ 16 f := rfl
theorem z_c87 (f : Int → Int) : z_ce κ a 87 f = z_eL κ 16 f := rfl
theorem z_c88 (f : Int → Int) : z_ce κ a 88 f = z_eI κ 30 f := rfl
theorem z_c89 (f : Int → Int) : z_ce κ a 89 f = z_eZ κ 5 f := rfl
theorem z_c90 (f : Int → Int) : z_ce κ a 90 f = z_eI κ 5 f := rfl
theorem z_c91 (f : Int → Int) : z_ce κ a 91 f = z_eI κ 5 f := rfl
theorem z_c92 (f : Int → Int) : z_ce κ a 92 f = z_eI κ 6 f := rfl
theorem z_c93 (f : Int → Int) : z_ce κ a 93 f = z_eI κ 6 f := rfl
theorem z_c94 (f : Int → Int) : z_ce κ a 94 f = z_eI κ 30 f := rfl
theorem z_c95 (f : Int → Int) : z_ce κ a 95 f = z_eZ κ 5 f := rfl
theorem z_cShow {b : Nat} (hb : b = 1 ∨ b = 25) (f : Int → Int) : z_ce κ a b f = .inr (4, z_fShow a b f) := by rcases hb with rfl | rfl <;> rfl
theorem z_cShow1 {b : Nat} (hb : b = 1 ∨ b = 25) (f : Int → Int) : z_ce κ a (b + 1) f = z_eI κ 6 f := by rcases hb with rfl | rfl <;> rfl
theorem z_cShow2 {b : Nat} (hb : b = 1 ∨ b = 25) (f : Int → Int) : z_ce κ a (b + 2) f = z_eZ κ 6 f := by rcases hb with rfl | rfl <;> rfl
theorem z_cShow3 {b : Nat} (hb : b = 1 ∨ b = 25) (f : Int → Int) : z_ce κ a (b + 3) f = z_eA κ a (b + 3) := by rcases hb with rfl | rfl <;> rfl
def z_pic (q : Nat) : Prop := ∃ b k : Nat, (b = 1 ∨ b = 25) ∧ k < 5 ∧ q = b + 4 + 4 * k
theorem z_pic.mk {b k : Nat} (hb : b = 1 ∨ b = 25) (hk : k < 5) : z_pic (b + 4 + 4 * k) := ⟨b, k, hb, hk, rfl⟩
theorem z_pic.cases {q : Nat} {P : Nat → Prop} (h : z_pic q) (h5 : P 5) (h9 : P 9) (h13 : P 13) (h17 : P 17) (h21 : P 21) (h29 : P 29) (h33 : P 33) (h37 : P 37) (h41 : P 41) (h45 : P 45) : P q := by
  obtain ⟨b, k, hb, hk, rfl⟩ := h
  rcases hb with rfl | rfl
  · match k, hk with
    | 0, _ => exact h5
    | 1, _ => exact h9
    | 2, _ => exact h13
    | 3, _ => exact h17
    | 4, _ => exact h21
  · match k, hk with
    | 0, _ => exact h29
    | 1, _ => exact h33
    | 2, _ => exact h37
    | 3, _ => exact h41
    | 4, _ => exact h45
theorem z_pic.lt {q : Nat} (h : z_pic q) : q + 3 < 96 := by obtain ⟨b, k, hb, hk, rfl⟩ := h; omega
theorem z_cPic {q : Nat} (h : z_pic q) (f : Int → Int) : z_ce κ a q f = .inr (0, z_fPic a q f) := h.cases (P := fun q => z_ce κ a q f = .inr (0, z_fPic a q f)) rfl rfl rfl rfl rfl rfl rfl rfl rfl rfl
theorem z_cPic1 {q : Nat} (h : z_pic q) (f : Int → Int) : z_ce κ a (q + 1) f = z_eI κ 7 f := h.cases (P := fun q => z_ce κ a (q + 1) f = z_eI κ 7 f) rfl rfl rfl rfl rfl rfl rfl rfl rfl rfl
theorem z_cPic2 {q : Nat} (h : z_pic q) (f : Int → Int) : z_ce κ a (q + 2) f = z_eI κ 7 f := h.cases (P := fun q => z_ce κ a (q + 2) f = z_eI κ 7 f) rfl rfl rfl rfl rfl rfl rfl rfl rfl rfl
theorem z_cPic3 {q : Nat} (h : z_pic q) (f : Int → Int) : z_ce κ a (q + 3) f = z_eZ κ 7 f := h.cases (P := fun q => z_ce κ a (q + 3) f = z_eZ κ 7 f) rfl rfl rfl rfl rfl rfl rfl rfl rfl rfl
theorem z_cPlan {b : Nat} (hb : b = 52 ∨ b = 62) (f : Int → Int) : z_ce κ a b f = .inr (1, z_fPlan a b f) := by rcases hb with rfl | rfl <;> rfl
theorem z_cPlan1 {b : Nat} (hb : b = 52 ∨ b = 62) (f : Int → Int) : z_ce κ a (b + 1) f = z_eZ κ 5 f := by rcases hb with rfl | rfl <;> rfl
theorem z_cPlan2 {b : Nat} (hb : b = 52 ∨ b = 62) (f : Int → Int) : z_ce κ a (b + 2) f = z_eI κ 5 f := by rcases hb with rfl | rfl <;> rfl
theorem z_cPlan3 {b : Nat} (hb : b = 52 ∨ b = 62) (f : Int → Int) : z_ce κ a (b + 3) f = z_eI κ 5 f := by rcases hb with rfl | rfl <;> rfl
theorem z_cPlan4 {b : Nat} (hb : b = 52 ∨ b = 62) (f : Int → Int) : z_ce κ a (b + 4) f = z_eG κ a (b + 4) := by rcases hb with rfl | rfl <;> rfl
theorem z_cPlan5 {b k : Nat} (hb : b = 52 ∨ b = 62) (hk : k < 5) (f : Int → Int) : z_ce κ a (b + 5 + k) f = z_eI κ 6 f := by
  rcases hb with rfl | rfl
  · match k, hk with
    | 0, _ => rfl
    | 1, _ => rfl
    | 2, _ => rfl
    | 3, _ => rfl
    | 4, _ => rfl
  · match k, hk with
    | 0, _ => rfl
    | 1, _ => rfl
    | 2, _ => rfl
    | 3, _ => rfl
    | 4, _ => rfl
theorem r_get (X : z_X p R s m args c cc own nL D κ a A kc ks) {q ci N ix : Nat} {C : String} {T : u_T} {fs : (Int → Int) → List Value} {v : Value} (j : Nat) (hd : decode cc pc = .ok (.getfield ix, 3)) (hE : ∀ f, z_ce κ a q f = .inr (ci, fs f)) (hin : ∀ w ∈ u_ws C T N, w ∈ z_TT) (hlk : Cond.fieldLink own ix (T j).1 (T j).2.1 (T j).2.2.1 ∈ z_TT) (hq : q < 96) (hc : vwCl[ci]? = some (C, T, N)) (hv : (fs (σ q))[j]? = some v) (hj : j < N) (k : z_G p l e R s m args below meth c nL D κ a A kc ks Q σ lv (pc + 3) (v :: st)) : z_G p l e R s m args below meth c nL D κ a A kc ks Q σ lv pc (.ref (a q) :: st) :=
  fun ls H locs hl hP hS => va_get (D := D) (ci := ci) (v := v) (C := C) (T := T) (N := N) (ref := (T j).1) X.1.1 X.1.2.1 X.1.2.2.2.2 hin X.1.2.2.2.1 X.2.1.1 hP q (by rw [z_w_at hq, hE]) hc j hj (X.1.2.2.2.2 _ hlk) (fun _ h => h) hv hd (k ls H locs hl hP hS)
theorem r_put (X : z_X p R s m args c cc own nL D κ a A kc ks) {q ci N ix : Nat} {C : String} {T : u_T} {fs : (Int → Int) → List Value} {x : Int} (j : Nat) (ji : Int) (hd : decode cc pc = .ok (.putfield ix, 3)) (hE : ∀ f, z_ce κ a q f = .inr (ci, fs f)) (hin : ∀ w ∈ u_ws C T N, w ∈ z_TT) (hlk : Cond.fieldLink own ix (T j).1 (T j).2.1 (T j).2.2.1 ∈ z_TT) (ty0 : Nat → FieldType) (hty : ∀ k, k < N → parseFieldDescriptor (T k).2.2.1 = some (ty0 k)) (hnm : ∀ a, a < N → ∀ b, b < N → a ≠ b → (T a).2.1 ≠ (T b).2.1) (hq : q < 96) (hc : vwCl[ci]? = some (C, T, N)) (hj : j < N) (hfin : (T j).2.2.2 = false) {ty : FieldType} (hdt : parseFieldDescriptor (T j).2.2.1 = some ty) (hn : narrow ty (.int (zI x)) = .int (zI x)) (hfit : fits ty (.int (zI x)) = true) (hs : ∀ f v, (fs f).set j (.int (zI v)) = fs (z_upf f ji v)) (hlen : j < (fs (σ q)).length) (k : z_G p l e R s m args below meth c nL D κ a A kc ks Q (z_up σ q ji x) lv (pc + 3) st) : z_G p l e R s m args below meth c nL D κ a A kc ks Q σ lv pc (.int (zI x) :: .ref (a q) :: st) :=
  fun ls H locs hl hP hS => va_put (D := D) (ci := ci) (C := C) (T := T) (N := N) (ref := (T j).1) X.1.1 X.1.2.1 X.1.2.2.2.2 hin ty0 hty hnm X.1.2.2.2.1 X.2.1.1 hP (X.2.2.1.D κ σ) hS q (by rw [z_w_at hq, hE]) hc j hj (X.1.2.2.2.2 _ hlk) (fun _ h => h) hfin hdt hn hfit hlen hd (fun H1 locs1 hP1 _ hS1 => k ls H1 locs1 hl (by
    rw [hs, ← hE, z_w_set hq] at hP1
    exact hP1) hS1)
theorem r_iald (X : z_X p R s m args c cc own nL D κ a A kc ks) {q n : Nat} {i : Int} (hd : decode cc pc = .ok (.iaload, 1)) (hE : ∀ f, z_ce κ a q f = z_eI κ n f) (hq : q < 96) (hi : 0 ≤ i ∧ i < (n : Int)) (k : z_G p l e R s m args below meth c nL D κ a A kc ks Q σ lv (pc + 1) (.int (zI (σ q i)) :: st)) (hn : n < 2147483648 := by decide) : z_G p l e R s m args below meth c nL D κ a A kc ks Q σ lv pc (.int (zI i) :: .ref (a q) :: st) :=
  fun ls H locs hl hP hS => va_iald X.1.1 X.1.2.1 X.2.1.1 hP q 0 (by rw [z_w_at hq, hE]) rfl (zI_vin hi.1 hi.2 hn) hd (by rw [zaI_at hi.1 hi.2 hn]; exact k ls H locs hl hP hS)
theorem r_zald (X : z_X p R s m args c cc own nL D κ a A kc ks) {q n : Nat} {i : Int} (hd : decode cc pc = .ok (.baload, 1)) (hE : ∀ f, z_ce κ a q f = z_eZ κ n f) (hq : q < 96) (hi : 0 ≤ i ∧ i < (n : Int)) (k : z_G p l e R s m args below meth c nL D κ a A kc ks Q σ lv (pc + 1) (.int (zI (σ q i)) :: st)) (hn : n < 2147483648 := by decide) : z_G p l e R s m args below meth c nL D κ a A kc ks Q σ lv pc (.int (zI i) :: .ref (a q) :: st) :=
  fun ls H locs hl hP hS => va_zald X.1.1 X.1.2.1 X.2.1.1 hP q 2 (by rw [z_w_at hq, hE]) rfl (zI_vin hi.1 hi.2 hn) hd (by rw [zaI_at hi.1 hi.2 hn]; exact k ls H locs hl hP hS)
theorem r_lald (X : z_X p R s m args c cc own nL D κ a A kc ks) {q n : Nat} {i : Int} (hd : decode cc pc = .ok (.laload, 1)) (hE : ∀ f, z_ce κ a q f = z_eL κ n f) (hq : q < 96) (hi : 0 ≤ i ∧ i < (n : Int)) (k : z_G p l e R s m args below meth c nL D κ a A kc ks Q σ lv (pc + 1) (.long (zL (σ q i)) :: st)) (hn : n < 2147483648 := by decide) : z_G p l e R s m args below meth c nL D κ a A kc ks Q σ lv pc (.int (zI i) :: .ref (a q) :: st) :=
  fun ls H locs hl hP hS => va_lald X.1.1 X.1.2.1 X.2.1.1 hP q 1 (by rw [z_w_at hq, hE]) rfl (zI_vin hi.1 hi.2 hn) hd (by rw [zaL_at hi.1 hi.2 hn]; exact k ls H locs hl hP hS)
theorem r_iast (X : z_X p R s m args c cc own nL D κ a A kc ks) {q n : Nat} {i v : Int} (hd : decode cc pc = .ok (.iastore, 1)) (hE : ∀ f, z_ce κ a q f = z_eI κ n f) (hq : q < 96) (hi : 0 ≤ i ∧ i < (n : Int)) (k : z_G p l e R s m args below meth c nL D κ a A kc ks Q (z_up σ q i v) lv (pc + 1) st) (hn : n < 2147483648 := by decide) : z_G p l e R s m args below meth c nL D κ a A kc ks Q σ lv pc (.int (zI v) :: .int (zI i) :: .ref (a q) :: st) :=
  fun ls H locs hl hP hS => va_iast X.1.1 X.1.2.1 X.2.1.1 hP (X.2.2.1.D κ σ) hS q 0 (by rw [z_w_at hq, hE]) rfl (zI_vin hi.1 hi.2 hn) hd (fun H1 locs1 hP1 _ hS1 => k ls H1 locs1 hl (by
    rw [zaI_up hi.1 hi.2 hn, show (Sum.inl (κ 0, n, .inl (zaI (z_upf (σ q) i v))) : va_E) = z_ce κ a q (z_upf (σ q) i v) from (hE _).symm, z_w_set hq] at hP1
    exact hP1) hS1)
theorem zI_narZ {v : Int} (h : v = 0 ∨ v = 1) : vp_nar .boolean (zI v) = zI v := by rcases h with rfl | rfl <;> decide +kernel
theorem zI_narB {v : Int} (h : v = 0 ∨ v = 1) : narrow .boolean (.int (zI v)) = .int (zI v) := by rcases h with rfl | rfl <;> decide +kernel
theorem zI_fitB {v : Int} (h : v = 0 ∨ v = 1) : fits .boolean (.int (zI v)) = true := by rcases h with rfl | rfl <;> decide +kernel
theorem zB_01 (P : Prop) [Decidable P] : zB P = 0 ∨ zB P = 1 := by unfold zB; split <;> simp
theorem r_zast (X : z_X p R s m args c cc own nL D κ a A kc ks) {q n : Nat} {i v : Int} (hd : decode cc pc = .ok (.bastore, 1)) (hE : ∀ f, z_ce κ a q f = z_eZ κ n f) (hq : q < 96) (hi : 0 ≤ i ∧ i < (n : Int)) (hv : v = 0 ∨ v = 1) (k : z_G p l e R s m args below meth c nL D κ a A kc ks Q (z_up σ q i v) lv (pc + 1) st) (hn : n < 2147483648 := by decide) : z_G p l e R s m args below meth c nL D κ a A kc ks Q σ lv pc (.int (zI v) :: .int (zI i) :: .ref (a q) :: st) :=
  fun ls H locs hl hP hS => va_zast X.1.1 X.1.2.1 X.2.1.1 hP (X.2.2.1.D κ σ) hS q 2 (by rw [z_w_at hq, hE]) rfl (zI_vin hi.1 hi.2 hn) hd (fun H1 locs1 hP1 _ hS1 => k ls H1 locs1 hl (by
    rw [zI_narZ hv, zaI_up hi.1 hi.2 hn, show (Sum.inl (κ 2, n, .inl (zaI (z_upf (σ q) i v))) : va_E) = z_ce κ a q (z_upf (σ q) i v) from (hE _).symm, z_w_set hq] at hP1
    exact hP1) hS1)
theorem r_last (X : z_X p R s m args c cc own nL D κ a A kc ks) {q n : Nat} {i v : Int} (hd : decode cc pc = .ok (.lastore, 1)) (hE : ∀ f, z_ce κ a q f = z_eL κ n f) (hq : q < 96) (hi : 0 ≤ i ∧ i < (n : Int)) (k : z_G p l e R s m args below meth c nL D κ a A kc ks Q (z_up σ q i v) lv (pc + 1) st) (hn : n < 2147483648 := by decide) : z_G p l e R s m args below meth c nL D κ a A kc ks Q σ lv pc (.long (zL v) :: .int (zI i) :: .ref (a q) :: st) :=
  fun ls H locs hl hP hS => va_last X.1.1 X.1.2.1 X.2.1.1 hP (X.2.2.1.D κ σ) hS q 1 (by rw [z_w_at hq, hE]) rfl (zI_vin hi.1 hi.2 hn) hd (fun H1 locs1 hP1 _ hS1 => k ls H1 locs1 hl (by
    rw [zaL_up hi.1 hi.2 hn, show (Sum.inl (κ 1, n, .inr (.inl (zaL (z_upf (σ q) i v)))) : va_E) = z_ce κ a q (z_upf (σ q) i v) from (hE _).symm, z_w_set hq] at hP1
    exact hP1) hS1)
theorem z_row {a : Nat → Nat} {b w n k : Nat} (hk : k < n) (hn : n < 2147483648) : va_rf (zaR a b w n (zI (k : Int)).toNatClampNeg) = .ref (a (b + w * k)) := by
  have h : (zI (k : Int)).toNatClampNeg = k := by have := zI_clamp (i := (k : Int)) (n := n) (by omega) (by omega) hn; omega
  rw [h]
  unfold zaR
  rw [if_pos hk]
  rfl
theorem r_aald (X : z_X p R s m args c cc own nL D κ a A kc ks) {b k : Nat} (hd : decode cc pc = .ok (.aaload, 1)) (hb : b = 1 ∨ b = 25) (hk : k < 5) (kk : z_G p l e R s m args below meth c nL D κ a A kc ks Q σ lv (pc + 1) (.ref (a (b + 4 + 4 * k)) :: st)) : z_G p l e R s m args below meth c nL D κ a A kc ks Q σ lv pc (.int (zI (k : Int)) :: .ref (a (b + 3)) :: st) :=
  fun ls H locs hl hP hS => va_aldq (C := "DotsOnGrass$Picture") X.1.1 X.1.2.1 X.2.1.1 hP (b + 3) 3 (by rw [z_w_at (by omega), z_cShow3 hb]) rfl (zI_vin (by omega) (by omega) (by decide)) hd (by rw [z_row hk (by decide)]; exact kk ls H locs hl hP hS)
theorem r_gald (X : z_X p R s m args c cc own nL D κ a A kc ks) {b k : Nat} (hd : decode cc pc = .ok (.aaload, 1)) (hb : b = 52 ∨ b = 62) (hk : k < 5) (kk : z_G p l e R s m args below meth c nL D κ a A kc ks Q σ lv (pc + 1) (.ref (a (b + 5 + k)) :: st)) : z_G p l e R s m args below meth c nL D κ a A kc ks Q σ lv pc (.int (zI (k : Int)) :: .ref (a (b + 4)) :: st) := by
  intro ls H locs hl hP hS
  have ha : (z_w κ a σ)[b + 4]? = some (a (b + 4), z_eG κ a (b + 4)) := by rw [z_w_at (by omega), z_cPlan4 hb]
  have hin : vp_in (zI (k : Int)) 5 := zI_vin (by omega) (by omega) (by decide)
  have hlt : (zI (k : Int)).toNatClampNeg < 5 := Nat.not_le.mp fun q => hin (Or.inr q)
  refine W.aald (v := va_rf (zaR a (b + 4 + 1) 1 5 (zI (k : Int)).toNatClampNeg)) (ty := .array .int) X.1.1 X.1.2.1 (hP _ _ ha) ((X.2.1.1.2 4 (κ 4, .array .int) rfl).1 5 (fun j => va_rf (zaR a (b + 4 + 1) 1 5 j))) rfl (fun q => by cases q) (by show ¬ ((zI (k : Int)) < 0 ∨ (arrV _ _ _).slots.size ≤ _); rw [arrV_size]; exact hin) (by show (arrV _ _ _).slots[_]? = _; rw [arrV_read _ _ hlt]) rfl rfl hd ?_
  rw [z_row hk (by decide), show b + 4 + 1 + 1 * k = b + 5 + k by omega]
  exact kk ls H locs hl hP hS
theorem r_alen (X : z_X p R s m args c cc own nL D κ a A kc ks) {q n : Nat} (hd : decode cc pc = .ok (.arraylength, 1)) (hE : ∀ f, z_ce κ a q f = z_eI κ n f) (hq : q < 96) (k : z_G p l e R s m args below meth c nL D κ a A kc ks Q σ lv (pc + 1) (.int (zI (n : Int)) :: st)) : z_G p l e R s m args below meth c nL D κ a A kc ks Q σ lv pc (.ref (a q) :: st) :=
  fun ls H locs hl hP hS => va_alen (x := (n, .inl (zaI (σ q)))) (ty := .int) X.1.1 X.1.2.1 X.2.1.1 hP q 0 (by rw [z_w_at hq, hE]) rfl (v := zI (n : Int)) (by show Int32.ofNat n = zI (n : Int); exact (Int32.ofInt_eq_ofNat ..).symm) hd (k ls H locs hl hP hS)
def z_rm (d : Nat) : Room := { frames := d, cells := 0, slots := 0, locals := 64 * d }
def z_Pc (D : va_G) (κ : Nat → ClassId) (a : Nat → Nat) (av : List Value) (σ : zSt) : Array Value → State → Prop := va_Pc av (fun U => va_P D vwCl (z_w κ a σ) U.heap ∧ z_K D κ U)
def z_Qi (D : va_G) (κ : Nat → ClassId) (a : Nat → Nat) (A : Nat → Prop) (z : Int) (σ' : zSt) : Array Value → State → Outcome → State → Prop := va_Qi (fun r (_ : Unit) => r = zI z) (fun _ t => va_P D vwCl (z_w κ a σ') t.heap) A
def z_Qv (D : va_G) (κ : Nat → ClassId) (a : Nat → Nat) (A : Nat → Prop) (σ' : zSt) : Array Value → State → Outcome → State → Prop := va_Qv (fun (_ : Unit) => True) (fun _ t => va_P D vwCl (z_w κ a σ') t.heap) A
/-- the method y answers z, and the world holds σ' behind it -/
def z_Ti (l : Launch) (D : va_G) (κ : Nat → ClassId) (a : Nat → Nat) (A : Nat → Prop) (y : MethodName) (bytes : ByteArray) (maxL : Nat) (ret : Option FieldType) (d : Nat) (av : List Value) (σ : zSt) (z : Int) (σ' : zSt) : Prop := Met l y (.code y bytes maxL ret :: z_TT) (z_rm d) (z_Pc D κ a av σ) (z_Qi D κ a A z σ') 0 0 A
def z_Tv (l : Launch) (D : va_G) (κ : Nat → ClassId) (a : Nat → Nat) (A : Nat → Prop) (y : MethodName) (bytes : ByteArray) (maxL : Nat) (ret : Option FieldType) (d : Nat) (av : List Value) (σ : zSt) (σ' : zSt) : Prop := Met l y (.code y bytes maxL ret :: z_TT) (z_rm d) (z_Pc D κ a av σ) (z_Qv D κ a A σ') 0 0 A
def z_M (meth : Method) (ret : Option FieldType) : Prop := meth.sig.returnType = ret ∧ meth.locks = false
theorem z_blind {av : List Value} : FrameBlind (z_Pc D κ a av σ) := fun _ _ _ _ q => ⟨q.1, q.2.1, q.2.2.same rfl⟩
theorem z_Ti_of {y : MethodName} {d maxL : Nat} {cc : ByteArray} {ret : Option FieldType} {own : String} {av : List Value} {σ σ' : zSt} {z : Int} {lv0 : List (Option Value)} (hA : z_aD a A) (hy : plainName y.cls = true) (ho : y.cls = own) (hlen : (lg_sl av).length ≤ maxL) (hl0 : lv_args 0 av = z_as 0 lv0)
    (body : ∀ (p : Program) (e : Env) (s : State) (m : MethodId) (below : List Frame) (meth : Method) (c : Code), z_X p (z_rm d) s m av.toArray c cc own maxL D κ a A 0 0 → z_M meth ret → z_G p l e (z_rm d) s m av.toArray below meth c maxL D κ a A 0 0 (MQ below (z_Qi D κ a A z σ') av.toArray s 0 0 A) σ lv0 0 []) : z_Ti l D κ a A y cc maxL ret d av σ z σ' := by
  refine Met.ofW (cc := cc) (maxL := maxL) (ret := ret) hy rfl ?_
  intro p e s m args below meth c s₁ B hml hv
  obtain ⟨rfl, hP, hK⟩ := hv
  have hown : s.vm.findClass own = some m.cls := by rw [← ho]; exact findClass_of_methodNamed B.named
  have hl := lv_entry av (n := maxL) hlen
  rw [lg_entry_eq]
  rw [hl0] at hl
  exact body p e s m below meth c ⟨⟨B.exec, B.bytes, hml, hown, fun w hw => atoms_spec (ws := Cond.code y cc maxL ret :: z_TT) B.pre w (List.mem_cons_of_mem _ hw)⟩, hK, hA, Nat.zero_le _, Nat.zero_le _⟩ ⟨B.returns, B.notSynchronized⟩ _ _ _ hl hP va_S.rf
theorem z_Tv_of {y : MethodName} {d maxL : Nat} {cc : ByteArray} {ret : Option FieldType} {own : String} {av : List Value} {σ σ' : zSt} {lv0 : List (Option Value)} (hA : z_aD a A) (hy : plainName y.cls = true) (ho : y.cls = own) (hlen : (lg_sl av).length ≤ maxL) (hl0 : lv_args 0 av = z_as 0 lv0)
    (body : ∀ (p : Program) (e : Env) (s : State) (m : MethodId) (below : List Frame) (meth : Method) (c : Code), z_X p (z_rm d) s m av.toArray c cc own maxL D κ a A 0 0 → z_M meth ret → z_G p l e (z_rm d) s m av.toArray below meth c maxL D κ a A 0 0 (MQ below (z_Qv D κ a A σ') av.toArray s 0 0 A) σ lv0 0 []) : z_Tv l D κ a A y cc maxL ret d av σ σ' := by
  refine Met.ofW (cc := cc) (maxL := maxL) (ret := ret) hy rfl ?_
  intro p e s m args below meth c s₁ B hml hv
  obtain ⟨rfl, hP, hK⟩ := hv
  have hown : s.vm.findClass own = some m.cls := by rw [← ho]; exact findClass_of_methodNamed B.named
  have hl := lv_entry av (n := maxL) hlen
  rw [lg_entry_eq]
  rw [hl0] at hl
  exact body p e s m below meth c ⟨⟨B.exec, B.bytes, hml, hown, fun w hw => atoms_spec (ws := Cond.code y cc maxL ret :: z_TT) B.pre w (List.mem_cons_of_mem _ hw)⟩, hK, hA, Nat.zero_le _, Nat.zero_le _⟩ ⟨B.returns, B.notSynchronized⟩ _ _ _ hl hP va_S.rf
theorem r_iret (X : z_X p R s m args c cc own nL D κ a A kc ks) (M : z_M meth (some .int)) {x z : Int} {σ' : zSt} (hd : decode cc pc = .ok (.ireturn, 1)) (hz : x = z) (hσ : σ = σ') : z_G p l e R s m args below meth c nL D κ a A kc ks (MQ below (z_Qi D κ a A z σ') args s kc ks A) σ lv pc [.int (zI x)] := by
  subst hz
  subst hσ
  exact fun ls H locs hl hP hS => W.iret (v := zI x) X.1.1 X.1.2.1 M.1 (fun t ht hW => ⟨⟨zI x, (), rfl, rfl, by show va_P D vwCl (z_w κ a σ) t.heap; rw [ht]; exact hP⟩, hS.F ht⟩) hS.2.2 hd M.2
theorem r_zret (X : z_X p R s m args c cc own nL D κ a A kc ks) (M : z_M meth (some .boolean)) {x z : Int} {σ' : zSt} (hd : decode cc pc = .ok (.ireturn, 1)) (h01 : x = 0 ∨ x = 1) (hz : x = z) (hσ : σ = σ') : z_G p l e R s m args below meth c nL D κ a A kc ks (MQ below (z_Qi D κ a A z σ') args s kc ks A) σ lv pc [.int (zI x)] := by
  subst hz
  subst hσ
  exact fun ls H locs hl hP hS => W.zret (v := zI x) X.1.1 X.1.2.1 M.1 (zI_narB h01) (fun t ht hW => ⟨⟨zI x, (), rfl, rfl, by show va_P D vwCl (z_w κ a σ) t.heap; rw [ht]; exact hP⟩, hS.F ht⟩) hS.2.2 hd M.2
theorem r_vret (X : z_X p R s m args c cc own nL D κ a A kc ks) (M : z_M meth none) {σ' : zSt} (hd : decode cc pc = .ok (.return_, 1)) (hσ : σ = σ') : z_G p l e R s m args below meth c nL D κ a A kc ks (MQ below (z_Qv D κ a A σ') args s kc ks A) σ lv pc [] := by
  subst hσ
  exact fun ls H locs hl hP hS => W.vret X.1.1 X.1.2.1 M.1 (fun t ht hW => ⟨⟨(), rfl, trivial, by show va_P D vwCl (z_w κ a σ) t.heap; rw [ht]; exact hP⟩, hS.F ht⟩) hS.2.2 hd M.2

theorem r_callVi (X : z_X p R s m args c cc own nL D κ a A kc ks) {y : MethodName} {d maxL ix n : Nat} {bytes : ByteArray} {ret : Option FieldType} {As rest : List Value} {σ' : zSt} {z : Int} {q ci N : Nat} {C : String} {T : u_T} {fs : (Int → Int) → List Value} (hM : z_Ti l D κ a A y bytes maxL ret d (.ref (a q) :: As) σ z σ') (hd : decode cc pc = .ok (.invokevirtual ix, 3)) (h1 : Cond.methodLink own ix y ∈ z_TT) (h2 : Cond.instanceMethod y ∈ z_TT) (h3 : Cond.selects C y y ∈ z_TT) (h4 : Cond.initialized C ∈ z_TT) (h5 : Cond.code y bytes maxL ret ∈ z_TT) (hE : ∀ f, z_ce κ a q f = .inr (ci, fs f)) (hq : q < 96) (hc : vwCl[ci]? = some (C, T, N)) (hst : st = As.reverse ++ .ref (a q) :: rest) (hW : (rest.map fun v => v.category).sum ≤ 8) (hR : d + 1 ≤ R.frames ∧ 8 + (maxL + 11) + 64 * d ≤ R.locals) (hnd : y.cls = C ∧ y.cls ≠ "java/lang/invoke/MethodHandle" ∧ y.cls ≠ "java/lang/invoke/VarHandle" ∧ (parseMethodDescriptor y.desc).map (fun d => d.parameters.length) = some n) (hn : As.length = n) (k : z_G p l e R s m args below meth c nL D κ a A kc ks Q σ' lv (pc + 3) (.int (zI z) :: rest)) : z_G p l e R s m args below meth c nL D κ a A kc ks Q σ lv pc st := by
  subst hst
  intro ls H locs hl hP hS
  exact va_calli (va_runV (As := As) (rest := rest) X.1 hM (cwV n X.1.2.2.2.2 (z_goodV h1 h2 h3 h4 h5) rfl rfl rfl hnd hR) ⟨z_blind, va_recv (ws := z_w κ a σ) (q0 := q) (ci := ci) X.2.1.1 hP hc (by rw [z_w_at hq, hE]), fun U hU hW2 => ⟨rfl, by rw [hU]; exact hP, X.2.1.warm hW2⟩⟩ rfl hn hl.1 rfl (lv_room hW) hd ⟨X.2.2.2.1, X.2.2.2.2⟩) hS (fun q _ h => h) (fun q h => h) (fun r _ t H1 locs1 ht _ hr hB _ _ hS1 => by
    rw [show r = zI z from hr]
    rw [ht] at hB
    exact k ls H1 locs1 hl hB hS1)
theorem r_callSi (X : z_X p R s m args c cc own nL D κ a A kc ks) {y : MethodName} {d maxL ix n : Nat} {bytes : ByteArray} {ret : Option FieldType} {As rest : List Value} {σ' : zSt} {z : Int} (hM : z_Ti l D κ a A y bytes maxL ret d As σ z σ') (hd : decode cc pc = .ok (.invokestatic ix, 3)) (h1 : Cond.methodLink own ix y ∈ z_TT) (h2 : Cond.static y ∈ z_TT) (h4 : Cond.initialized y.cls ∈ z_TT) (h5 : Cond.code y bytes maxL ret ∈ z_TT) (hst : st = As.reverse ++ rest) (hW : (rest.map fun v => v.category).sum ≤ 8) (hR : d + 1 ≤ R.frames ∧ 8 + (maxL + 11) + 64 * d ≤ R.locals) (hnd : y.cls ≠ "java/lang/invoke/MethodHandle" ∧ y.cls ≠ "java/lang/invoke/VarHandle" ∧ (parseMethodDescriptor y.desc).map (fun d => d.parameters.length) = some n) (hn : As.length = n) (k : z_G p l e R s m args below meth c nL D κ a A kc ks Q σ' lv (pc + 3) (.int (zI z) :: rest)) : z_G p l e R s m args below meth c nL D κ a A kc ks Q σ lv pc st := by
  subst hst
  intro ls H locs hl hP hS
  exact va_calli (va_runS (As := As) (rest := rest) X.1 hM (va_cwS n X.1.2.2.2.2 (z_goodS h1 h2 h4 h5) rfl rfl rfl hnd hR) ⟨z_blind, fun U hU hW2 => ⟨rfl, by rw [hU]; exact hP, X.2.1.warm hW2⟩⟩ rfl hn hl.1 rfl (lv_room hW) hd ⟨X.2.2.2.1, X.2.2.2.2⟩) hS (fun q _ h => h) (fun q h => h) (fun r _ t H1 locs1 ht _ hr hB _ _ hS1 => by
    rw [show r = zI z from hr]
    rw [ht] at hB
    exact k ls H1 locs1 hl hB hS1)
theorem r_callSNi (X : z_X p R s m args c cc own nL D κ a A kc ks) {y : MethodName} {d maxL ix n : Nat} {bytes : ByteArray} {ret : Option FieldType} {As rest : List Value} {σ' : zSt} {z : Int} {host : String} (hM : z_Ti l D κ a A y bytes maxL ret d As σ z σ') (hd : decode cc pc = .ok (.invokestatic ix, 3)) (h5 : Cond.code y bytes maxL ret ∈ z_TT) (hlk : va_Nw (.methodLinkNest own ix y host) s) (hstat : Cond.static y ∈ z_TT) (hini : Cond.initialized y.cls ∈ z_TT) (hst : st = As.reverse ++ rest) (hW : (rest.map fun v => v.category).sum ≤ 8) (hR : d + 1 ≤ R.frames ∧ 8 + (maxL + 11) + 64 * d ≤ R.locals) (hnd : y.cls ≠ "java/lang/invoke/MethodHandle" ∧ y.cls ≠ "java/lang/invoke/VarHandle" ∧ (parseMethodDescriptor y.desc).map (fun d => d.parameters.length) = some n) (hn : As.length = n) (k : z_G p l e R s m args below meth c nL D κ a A kc ks Q σ' lv (pc + 3) (.int (zI z) :: rest)) : z_G p l e R s m args below meth c nL D κ a A kc ks Q σ lv pc st := by
  subst hst
  intro ls H locs hl hP hS
  exact va_calli (va_runSN (As := As) (rest := rest) X.1 hM ⟨va_cnB n X.1.2.2.2.2 (z_goodN h5) rfl rfl rfl hlk (X.1.2.2.2.2 _ hini) hnd hR, X.1.2.2.2.2 _ hstat, trivial⟩ ⟨z_blind, fun U hU hW2 => ⟨rfl, by rw [hU]; exact hP, X.2.1.warm hW2⟩⟩ rfl hn hl.1 rfl (lv_room hW) hd ⟨X.2.2.2.1, X.2.2.2.2⟩) hS (fun q _ h => h) (fun q h => h) (fun r _ t H1 locs1 ht _ hr hB _ _ hS1 => by
    rw [show r = zI z from hr]
    rw [ht] at hB
    exact k ls H1 locs1 hl hB hS1)
theorem r_callVNi (X : z_X p R s m args c cc own nL D κ a A kc ks) {y : MethodName} {d maxL ix n : Nat} {bytes : ByteArray} {ret : Option FieldType} {As rest : List Value} {σ' : zSt} {z : Int} {host : String} {q ci N : Nat} {C : String} {T : u_T} {fs : (Int → Int) → List Value} (hM : z_Ti l D κ a A y bytes maxL ret d (.ref (a q) :: As) σ z σ') (hd : decode cc pc = .ok (.invokevirtual ix, 3)) (h5 : Cond.code y bytes maxL ret ∈ z_TT) (hlk : va_Nw (.methodLinkNest own ix y host) s) (hsel : Cond.selects C y y ∈ z_TT) (hinst : Cond.instanceMethod y ∈ z_TT) (hini : Cond.initialized y.cls ∈ z_TT) (hE : ∀ f, z_ce κ a q f = .inr (ci, fs f)) (hq : q < 96) (hc : vwCl[ci]? = some (C, T, N)) (hst : st = As.reverse ++ .ref (a q) :: rest) (hW : (rest.map fun v => v.category).sum ≤ 8) (hR : d + 1 ≤ R.frames ∧ 8 + (maxL + 11) + 64 * d ≤ R.locals) (hnd : y.cls ≠ "java/lang/invoke/MethodHandle" ∧ y.cls ≠ "java/lang/invoke/VarHandle" ∧ (parseMethodDescriptor y.desc).map (fun d => d.parameters.length) = some n) (hn : As.length = n) (k : z_G p l e R s m args below meth c nL D κ a A kc ks Q σ' lv (pc + 3) (.int (zI z) :: rest)) : z_G p l e R s m args below meth c nL D κ a A kc ks Q σ lv pc st := by
  subst hst
  intro ls H locs hl hP hS
  exact va_calli (va_runVN (As := As) (rest := rest) X.1 hM ⟨va_cnB n X.1.2.2.2.2 (z_goodN h5) rfl rfl rfl hlk (X.1.2.2.2.2 _ hini) hnd hR, X.1.2.2.2.2 _ hinst, X.1.2.2.2.2 _ hsel⟩ ⟨z_blind, va_recv (ws := z_w κ a σ) (q0 := q) (ci := ci) X.2.1.1 hP hc (by rw [z_w_at hq, hE]), fun U hU hW2 => ⟨rfl, by rw [hU]; exact hP, X.2.1.warm hW2⟩⟩ rfl hn hl.1 rfl (lv_room hW) hd ⟨X.2.2.2.1, X.2.2.2.2⟩) hS (fun q _ h => h) (fun q h => h) (fun r _ t H1 locs1 ht _ hr hB _ _ hS1 => by
    rw [show r = zI z from hr]
    rw [ht] at hB
    exact k ls H1 locs1 hl hB hS1)
theorem r_callVv (X : z_X p R s m args c cc own nL D κ a A kc ks) {y : MethodName} {d maxL ix n : Nat} {bytes : ByteArray} {ret : Option FieldType} {As rest : List Value} {σ' : zSt}  {q ci N : Nat} {C : String} {T : u_T} {fs : (Int → Int) → List Value} (hM : z_Tv l D κ a A y bytes maxL ret d (.ref (a q) :: As) σ  σ') (hd : decode cc pc = .ok (.invokevirtual ix, 3)) (h1 : Cond.methodLink own ix y ∈ z_TT) (h2 : Cond.instanceMethod y ∈ z_TT) (h3 : Cond.selects C y y ∈ z_TT) (h4 : Cond.initialized C ∈ z_TT) (h5 : Cond.code y bytes maxL ret ∈ z_TT) (hE : ∀ f, z_ce κ a q f = .inr (ci, fs f)) (hq : q < 96) (hc : vwCl[ci]? = some (C, T, N)) (hst : st = As.reverse ++ .ref (a q) :: rest) (hW : (rest.map fun v => v.category).sum ≤ 8) (hR : d + 1 ≤ R.frames ∧ 8 + (maxL + 11) + 64 * d ≤ R.locals) (hnd : y.cls = C ∧ y.cls ≠ "java/lang/invoke/MethodHandle" ∧ y.cls ≠ "java/lang/invoke/VarHandle" ∧ (parseMethodDescriptor y.desc).map (fun d => d.parameters.length) = some n) (hn : As.length = n) (k : z_G p l e R s m args below meth c nL D κ a A kc ks Q σ' lv (pc + 3) rest) : z_G p l e R s m args below meth c nL D κ a A kc ks Q σ lv pc st := by
  subst hst
  intro ls H locs hl hP hS
  exact va_callv (va_runV (As := As) (rest := rest) X.1 hM (cwV n X.1.2.2.2.2 (z_goodV h1 h2 h3 h4 h5) rfl rfl rfl hnd hR) ⟨z_blind, va_recv (ws := z_w κ a σ) (q0 := q) (ci := ci) X.2.1.1 hP hc (by rw [z_w_at hq, hE]), fun U hU hW2 => ⟨rfl, by rw [hU]; exact hP, X.2.1.warm hW2⟩⟩ rfl hn hl.1 rfl (lv_room hW) hd ⟨X.2.2.2.1, X.2.2.2.2⟩) hS (fun q _ h => h) (fun q h => h) (fun _ t H1 locs1 ht _ _ hB _ _ hS1 => by
    rw [ht] at hB
    exact k ls H1 locs1 hl hB hS1)
theorem r_callSv (X : z_X p R s m args c cc own nL D κ a A kc ks) {y : MethodName} {d maxL ix n : Nat} {bytes : ByteArray} {ret : Option FieldType} {As rest : List Value} {σ' : zSt}  (hM : z_Tv l D κ a A y bytes maxL ret d As σ  σ') (hd : decode cc pc = .ok (.invokestatic ix, 3)) (h1 : Cond.methodLink own ix y ∈ z_TT) (h2 : Cond.static y ∈ z_TT) (h4 : Cond.initialized y.cls ∈ z_TT) (h5 : Cond.code y bytes maxL ret ∈ z_TT) (hst : st = As.reverse ++ rest) (hW : (rest.map fun v => v.category).sum ≤ 8) (hR : d + 1 ≤ R.frames ∧ 8 + (maxL + 11) + 64 * d ≤ R.locals) (hnd : y.cls ≠ "java/lang/invoke/MethodHandle" ∧ y.cls ≠ "java/lang/invoke/VarHandle" ∧ (parseMethodDescriptor y.desc).map (fun d => d.parameters.length) = some n) (hn : As.length = n) (k : z_G p l e R s m args below meth c nL D κ a A kc ks Q σ' lv (pc + 3) rest) : z_G p l e R s m args below meth c nL D κ a A kc ks Q σ lv pc st := by
  subst hst
  intro ls H locs hl hP hS
  exact va_callv (va_runS (As := As) (rest := rest) X.1 hM (va_cwS n X.1.2.2.2.2 (z_goodS h1 h2 h4 h5) rfl rfl rfl hnd hR) ⟨z_blind, fun U hU hW2 => ⟨rfl, by rw [hU]; exact hP, X.2.1.warm hW2⟩⟩ rfl hn hl.1 rfl (lv_room hW) hd ⟨X.2.2.2.1, X.2.2.2.2⟩) hS (fun q _ h => h) (fun q h => h) (fun _ t H1 locs1 ht _ _ hB _ _ hS1 => by
    rw [ht] at hB
    exact k ls H1 locs1 hl hB hS1)
theorem r_callSNv (X : z_X p R s m args c cc own nL D κ a A kc ks) {y : MethodName} {d maxL ix n : Nat} {bytes : ByteArray} {ret : Option FieldType} {As rest : List Value} {σ' : zSt}  {host : String} (hM : z_Tv l D κ a A y bytes maxL ret d As σ  σ') (hd : decode cc pc = .ok (.invokestatic ix, 3)) (h5 : Cond.code y bytes maxL ret ∈ z_TT) (hlk : va_Nw (.methodLinkNest own ix y host) s) (hstat : Cond.static y ∈ z_TT) (hini : Cond.initialized y.cls ∈ z_TT) (hst : st = As.reverse ++ rest) (hW : (rest.map fun v => v.category).sum ≤ 8) (hR : d + 1 ≤ R.frames ∧ 8 + (maxL + 11) + 64 * d ≤ R.locals) (hnd : y.cls ≠ "java/lang/invoke/MethodHandle" ∧ y.cls ≠ "java/lang/invoke/VarHandle" ∧ (parseMethodDescriptor y.desc).map (fun d => d.parameters.length) = some n) (hn : As.length = n) (k : z_G p l e R s m args below meth c nL D κ a A kc ks Q σ' lv (pc + 3) rest) : z_G p l e R s m args below meth c nL D κ a A kc ks Q σ lv pc st := by
  subst hst
  intro ls H locs hl hP hS
  exact va_callv (va_runSN (As := As) (rest := rest) X.1 hM ⟨va_cnB n X.1.2.2.2.2 (z_goodN h5) rfl rfl rfl hlk (X.1.2.2.2.2 _ hini) hnd hR, X.1.2.2.2.2 _ hstat, trivial⟩ ⟨z_blind, fun U hU hW2 => ⟨rfl, by rw [hU]; exact hP, X.2.1.warm hW2⟩⟩ rfl hn hl.1 rfl (lv_room hW) hd ⟨X.2.2.2.1, X.2.2.2.2⟩) hS (fun q _ h => h) (fun q h => h) (fun _ t H1 locs1 ht _ _ hB _ _ hS1 => by
    rw [ht] at hB
    exact k ls H1 locs1 hl hB hS1)
theorem r_callVNv (X : z_X p R s m args c cc own nL D κ a A kc ks) {y : MethodName} {d maxL ix n : Nat} {bytes : ByteArray} {ret : Option FieldType} {As rest : List Value} {σ' : zSt}  {host : String} {q ci N : Nat} {C : String} {T : u_T} {fs : (Int → Int) → List Value} (hM : z_Tv l D κ a A y bytes maxL ret d (.ref (a q) :: As) σ  σ') (hd : decode cc pc = .ok (.invokevirtual ix, 3)) (h5 : Cond.code y bytes maxL ret ∈ z_TT) (hlk : va_Nw (.methodLinkNest own ix y host) s) (hsel : Cond.selects C y y ∈ z_TT) (hinst : Cond.instanceMethod y ∈ z_TT) (hini : Cond.initialized y.cls ∈ z_TT) (hE : ∀ f, z_ce κ a q f = .inr (ci, fs f)) (hq : q < 96) (hc : vwCl[ci]? = some (C, T, N)) (hst : st = As.reverse ++ .ref (a q) :: rest) (hW : (rest.map fun v => v.category).sum ≤ 8) (hR : d + 1 ≤ R.frames ∧ 8 + (maxL + 11) + 64 * d ≤ R.locals) (hnd : y.cls ≠ "java/lang/invoke/MethodHandle" ∧ y.cls ≠ "java/lang/invoke/VarHandle" ∧ (parseMethodDescriptor y.desc).map (fun d => d.parameters.length) = some n) (hn : As.length = n) (k : z_G p l e R s m args below meth c nL D κ a A kc ks Q σ' lv (pc + 3) rest) : z_G p l e R s m args below meth c nL D κ a A kc ks Q σ lv pc st := by
  subst hst
  intro ls H locs hl hP hS
  exact va_callv (va_runVN (As := As) (rest := rest) X.1 hM ⟨va_cnB n X.1.2.2.2.2 (z_goodN h5) rfl rfl rfl hlk (X.1.2.2.2.2 _ hini) hnd hR, X.1.2.2.2.2 _ hinst, X.1.2.2.2.2 _ hsel⟩ ⟨z_blind, va_recv (ws := z_w κ a σ) (q0 := q) (ci := ci) X.2.1.1 hP hc (by rw [z_w_at hq, hE]), fun U hU hW2 => ⟨rfl, by rw [hU]; exact hP, X.2.1.warm hW2⟩⟩ rfl hn hl.1 rfl (lv_room hW) hd ⟨X.2.2.2.1, X.2.2.2.2⟩) hS (fun q _ h => h) (fun q h => h) (fun _ t H1 locs1 ht _ _ hB _ _ hS1 => by
    rw [ht] at hB
    exact k ls H1 locs1 hl hB hS1)
theorem r_mmax (X : z_X p R s m args c cc own nL D κ a A kc ks) {x y : Int} {ix : Nat} (hd : decode cc pc = .ok (.invokestatic ix, 3)) (hr : z_in x ∧ z_in y) (hlk : Cond.methodLink own ix Lib.Math.max.name ∈ z_TT) (hst : Cond.static Lib.Math.max.name ∈ z_TT) (hini : Cond.initialized "java/lang/Math" ∈ z_TT) (hco : Cond.code Lib.Math.max.name Lib.Math.max.code 2 (some .int) ∈ z_TT) (hR : 1 ≤ R.frames ∧ (st.map fun v => v.category).sum + 13 ≤ R.locals) (k : z_G p l e R s m args below meth c nL D κ a A kc ks Q σ lv (pc + 3) (.int (zI (max x y)) :: st)) : z_G p l e R s m args below meth c nL D κ a A kc ks Q σ lv pc (.int (zI y) :: .int (zI x) :: st) := by
  intro ls H locs hl hP hS
  refine va_mmax X.1.1 X.1.2.1 (X.1.2.2.1.trans hl.1.symm) X.1.2.2.2.1 (X.1.2.2.2.2 _ hlk) (X.1.2.2.2.2 _ hst) (X.1.2.2.2.2 _ hini) (X.1.2.2.2.2 _ hco) hR.1 hR.2 X.2.2.2.1 X.2.2.2.2 hd ?_
  have hk := k ls H locs hl hP hS
  have e1 : zI x < zI y ↔ x < y := zI_lt hr.1 hr.2
  by_cases h : x < y
  · rw [show max x y = y by omega] at hk
    rw [if_pos (e1.mpr h)]
    exact hk
  · rw [show max x y = x by omega] at hk
    rw [if_neg (fun q => h (e1.mp q))]
    exact hk
theorem r_mmin (X : z_X p R s m args c cc own nL D κ a A kc ks) {x y : Int} {ix : Nat} (hd : decode cc pc = .ok (.invokestatic ix, 3)) (hr : z_in x ∧ z_in y) (hlk : Cond.methodLink own ix Lib.Math.min.name ∈ z_TT) (hst : Cond.static Lib.Math.min.name ∈ z_TT) (hini : Cond.initialized "java/lang/Math" ∈ z_TT) (hco : Cond.code Lib.Math.min.name Lib.Math.min.code 2 (some .int) ∈ z_TT) (hR : 1 ≤ R.frames ∧ (st.map fun v => v.category).sum + 13 ≤ R.locals) (k : z_G p l e R s m args below meth c nL D κ a A kc ks Q σ lv (pc + 3) (.int (zI (min x y)) :: st)) : z_G p l e R s m args below meth c nL D κ a A kc ks Q σ lv pc (.int (zI y) :: .int (zI x) :: st) := by
  intro ls H locs hl hP hS
  refine va_mmin X.1.1 X.1.2.1 (X.1.2.2.1.trans hl.1.symm) X.1.2.2.2.1 (X.1.2.2.2.2 _ hlk) (X.1.2.2.2.2 _ hst) (X.1.2.2.2.2 _ hini) (X.1.2.2.2.2 _ hco) hR.1 hR.2 X.2.2.2.1 X.2.2.2.2 hd ?_
  have hk := k ls H locs hl hP hS
  have e1 : zI y < zI x ↔ y < x := zI_lt hr.2 hr.1
  by_cases h : y < x
  · rw [show min x y = y by omega] at hk
    rw [if_pos (e1.mpr h)]
    exact hk
  · rw [show min x y = x by omega] at hk
    rw [if_neg (fun q => h (e1.mp q))]
    exact hk
def z_abs (x : Int) : Int := if x < 0 then -x else x
theorem r_mabs (X : z_X p R s m args c cc own nL D κ a A kc ks) {x : Int} {ix : Nat} (hd : decode cc pc = .ok (.invokestatic ix, 3)) (hr : z_in x) (hlk : Cond.methodLink own ix Lib.Math.abs.name ∈ z_TT) (hst : Cond.static Lib.Math.abs.name ∈ z_TT) (hini : Cond.initialized "java/lang/Math" ∈ z_TT) (hco : Cond.code Lib.Math.abs.name Lib.Math.abs.code 1 (some .int) ∈ z_TT) (hR : 1 ≤ R.frames ∧ (st.map fun v => v.category).sum + 13 ≤ R.locals) (k : z_G p l e R s m args below meth c nL D κ a A kc ks Q σ lv (pc + 3) (.int (zI (z_abs x)) :: st)) : z_G p l e R s m args below meth c nL D κ a A kc ks Q σ lv pc (.int (zI x) :: st) := by
  intro ls H locs hl hP hS
  refine va_mabs X.1.1 X.1.2.1 (X.1.2.2.1.trans hl.1.symm) X.1.2.2.2.1 (X.1.2.2.2.2 _ hlk) (X.1.2.2.2.2 _ hst) (X.1.2.2.2.2 _ hini) (X.1.2.2.2.2 _ hco) hR.1 hR.2 X.2.2.2.1 X.2.2.2.2 hd ?_
  have hk := k ls H locs hl hP hS
  have e1 := zI_0le hr
  have e2 : (0 : Int32) - zI x = zI (-x) := by rw [← zI_0, ← zI_sub, Int.zero_sub]
  unfold z_abs at hk
  by_cases h : x < 0
  · rw [if_pos h] at hk
    rw [if_neg (fun q => by have := e1.mp q; omega), e2]
    exact hk
  · rw [if_neg h] at hk
    rw [if_pos (e1.mpr (by omega))]
    exact hk
end ZM
