set_option maxRecDepth 100000 in
set_option maxHeartbeats 4000000 in
theorem law_marcher {p : Program} {l : Launch} {e : Env} {s : State} {m : MethodId} {args : Array Value} {below : List Frame} {meth : Method} {c : Code} {D : va_G} {κ : Nat → ClassId} {a : Nat → Nat} {A : Nat → Prop} {kc ks : Nat} {Q : State → Prop} {b L : Nat} {xs : Nat → Int32} (X : z_X p room_1 s m args c cL_law RL 4 D κ a A kc ks) (S : zScr s A b L xs) (hL : L ≤ 3584) {i : Int} (hi : 0 ≤ i ∧ i + 6 < (L : Int)) {σ : zSt} {V : zV} (hI : zInv σ V) (back : ∀ (σ2 : zSt) (V2 : zV), zInv σ2 V2 → z_G p l e room_1 s m args below meth c 4 D κ a A kc ks Q σ2 [some (.ref b), some (.ref (a 0)), some (.ref (a 80)), some (.int (zI i))] 985 []) : z_G p l e room_1 s m args below meth c 4 D κ a A kc ks Q σ [some (.ref b), some (.ref (a 0)), some (.ref (a 80)), some (.int (zI i))] 140 [] := by
  obtain ⟨hV, hM, hS, hPl, h62, hW, hKp⟩ := id hI
  refine r_aload1 X dL_law_140 ?_
  refine r_aload0 X dL_law_141 ?_
  refine r_iload3 X dL_law_142 ?_
  refine r_iconst X dL_law_143 ?_
  refine r_iadd X dL_law_144 ?_
  refine r_sld X S dL_law_145 ⟨by omega, by omega⟩ (by omega) ?_
  refine r_callVp (n := 1) X (c_X5_marcher l X.2.2.1 _ _ (sX_in _ _) V hV hS hPl.1) dL_law_146 tw_255 tw_256 tw_257 tw_40 tw_258 z_c0 (by decide) rfl rfl (Nat.le_of_ble_eq_true rfl) ⟨by decide, by decide⟩ (by decide +kernel) rfl (fun z1 σ1 h1 => ?_)
  refine r_wr ?_
  refine r_aload2 X dL_law_149 ?_
  refine r_aload0 X dL_law_150 ?_
  refine r_iload3 X dL_law_151 ?_
  refine r_iconst X dL_law_152 ?_
  refine r_iadd X dL_law_153 ?_
  refine r_sld X S dL_law_154 ⟨by omega, by omega⟩ (by omega) ?_
  refine r_callVp (n := 1) X (c_X6_marcher l X.2.2.1 _ _ (sX_in _ _) V hV (mut_M hM h1.2)) dL_law_155 tw_614 tw_615 tw_616 tw_46 tw_617 z_c80 (by decide) rfl rfl (Nat.le_of_ble_eq_true rfl) ⟨by decide, by decide⟩ (by decide +kernel) rfl (fun z2 σ2 h2 => ?_)
  refine r_wr ?_
  refine r_icmp_eq (tgt := 985) X dL_law_158 ⟨wr_in _, wr_in _⟩ (fun h158 => ?_) (fun h158 => ?_)
  · obtain ⟨V2, hV2⟩ := inv_mut2 hI (h1.1.trans h2.1.symm) h1.2 h2.2 (fun q => mu_marcher hV (by rw [← h1.1]; exact q))
    exact back σ2 V2 hV2
  · exact absurd (congrArg wr (h1.1.trans h2.1.symm)) h158
set_option maxRecDepth 100000 in
set_option maxHeartbeats 4000000 in
theorem law_ill {p : Program} {l : Launch} {e : Env} {s : State} {m : MethodId} {args : Array Value} {below : List Frame} {meth : Method} {c : Code} {D : va_G} {κ : Nat → ClassId} {a : Nat → Nat} {A : Nat → Prop} {kc ks : Nat} {Q : State → Prop} {b L : Nat} {xs : Nat → Int32} (X : z_X p room_1 s m args c cL_law RL 4 D κ a A kc ks) (S : zScr s A b L xs) (hL : L ≤ 3584) {i : Int} (hi : 0 ≤ i ∧ i + 6 < (L : Int)) {σ : zSt} {V : zV} (hI : zInv σ V) (back : ∀ (σ2 : zSt) (V2 : zV), zInv σ2 V2 → z_G p l e room_1 s m args below meth c 4 D κ a A kc ks Q σ2 [some (.ref b), some (.ref (a 0)), some (.ref (a 80)), some (.int (zI i))] 985 []) : z_G p l e room_1 s m args below meth c 4 D κ a A kc ks Q σ [some (.ref b), some (.ref (a 0)), some (.ref (a 80)), some (.int (zI i))] 163 [] := by
  obtain ⟨hV, hM, hS, hPl, h62, hW, hKp⟩ := id hI
  refine r_aload1 X dL_law_163 ?_
  refine r_aload0 X dL_law_164 ?_
  refine r_iload3 X dL_law_165 ?_
  refine r_iconst X dL_law_166 ?_
  refine r_iadd X dL_law_167 ?_
  refine r_sld X S dL_law_168 ⟨by omega, by omega⟩ (by omega) ?_
  refine r_aload0 X dL_law_169 ?_
  refine r_iload3 X dL_law_170 ?_
  refine r_iconst X dL_law_171 ?_
  refine r_iadd X dL_law_172 ?_
  refine r_sld X S dL_law_173 ⟨by omega, by omega⟩ (by omega) ?_
  refine r_if_eq (tgt := 181) X dL_law_174 (sX_in _ _) (fun h174 => ?_) (fun h174 => ?_)
  · refine r_iconst X dL_law_181 ?_
    refine r_callVp (n := 2) X (c_X5_ill l X.2.2.1 _ _ _ (sX_in _ _) (by omega) V hV hS hPl.1) dL_law_182 tw_269 tw_270 tw_271 tw_40 tw_272 z_c0 (by decide) rfl rfl (Nat.le_of_ble_eq_true rfl) ⟨by decide, by decide⟩ (by decide +kernel) rfl (fun z1 σ1 h1 => ?_)
    refine r_wr ?_
    refine r_aload2 X dL_law_185 ?_
    refine r_aload0 X dL_law_186 ?_
    refine r_iload3 X dL_law_187 ?_
    refine r_iconst X dL_law_188 ?_
    refine r_iadd X dL_law_189 ?_
    refine r_sld X S dL_law_190 ⟨by omega, by omega⟩ (by omega) ?_
    refine r_aload0 X dL_law_191 ?_
    refine r_iload3 X dL_law_192 ?_
    refine r_iconst X dL_law_193 ?_
    refine r_iadd X dL_law_194 ?_
    refine r_sld X S dL_law_195 ⟨by omega, by omega⟩ (by omega) ?_
    refine r_if_eq (tgt := 203) X dL_law_196 (sX_in _ _) (fun h196 => ?_) (fun h196 => ?_)
    · refine r_iconst X dL_law_203 ?_
      refine r_callVp (n := 2) X (c_X6_ill l X.2.2.1 _ _ _ (sX_in _ _) (by omega) V hV (mut_M hM h1.2)) dL_law_204 tw_622 tw_623 tw_624 tw_46 tw_625 z_c80 (by decide) rfl rfl (Nat.le_of_ble_eq_true rfl) ⟨by decide, by decide⟩ (by decide +kernel) rfl (fun z2 σ2 h2 => ?_)
      refine r_wr ?_
      refine r_icmp_eq (tgt := 985) X dL_law_207 ⟨wr_in _, wr_in _⟩ (fun h207 => ?_) (fun h207 => ?_)
      · first
        | (exfalso; omega)
        | (obtain ⟨V2, hV2⟩ := inv_mut2 hI (h1.1.trans h2.1.symm) h1.2 h2.2 (fun q => mu_ill hV (by omega) (by rw [← h1.1]; exact q))
           exact back σ2 V2 hV2)
      · first
        | (exfalso; omega)
        | exact absurd (congrArg wr (h1.1.trans h2.1.symm)) h207
    · refine r_iconst X dL_law_199 ?_
      refine r_goto (tgt := 204) X dL_law_200 (by decide) ?_
      refine r_callVp (n := 2) X (c_X6_ill l X.2.2.1 _ _ _ (sX_in _ _) (by omega) V hV (mut_M hM h1.2)) dL_law_204 tw_622 tw_623 tw_624 tw_46 tw_625 z_c80 (by decide) rfl rfl (Nat.le_of_ble_eq_true rfl) ⟨by decide, by decide⟩ (by decide +kernel) rfl (fun z2 σ2 h2 => ?_)
      refine r_wr ?_
      refine r_icmp_eq (tgt := 985) X dL_law_207 ⟨wr_in _, wr_in _⟩ (fun h207 => ?_) (fun h207 => ?_)
      · first
        | (exfalso; omega)
        | (obtain ⟨V2, hV2⟩ := inv_mut2 hI (h1.1.trans h2.1.symm) h1.2 h2.2 (fun q => mu_ill hV (by omega) (by rw [← h1.1]; exact q))
           exact back σ2 V2 hV2)
      · first
        | (exfalso; omega)
        | exact absurd (congrArg wr (h1.1.trans h2.1.symm)) h207
  · refine r_iconst X dL_law_177 ?_
    refine r_goto (tgt := 182) X dL_law_178 (by decide) ?_
    refine r_callVp (n := 2) X (c_X5_ill l X.2.2.1 _ _ _ (sX_in _ _) (by omega) V hV hS hPl.1) dL_law_182 tw_269 tw_270 tw_271 tw_40 tw_272 z_c0 (by decide) rfl rfl (Nat.le_of_ble_eq_true rfl) ⟨by decide, by decide⟩ (by decide +kernel) rfl (fun z1 σ1 h1 => ?_)
    refine r_wr ?_
    refine r_aload2 X dL_law_185 ?_
    refine r_aload0 X dL_law_186 ?_
    refine r_iload3 X dL_law_187 ?_
    refine r_iconst X dL_law_188 ?_
    refine r_iadd X dL_law_189 ?_
    refine r_sld X S dL_law_190 ⟨by omega, by omega⟩ (by omega) ?_
    refine r_aload0 X dL_law_191 ?_
    refine r_iload3 X dL_law_192 ?_
    refine r_iconst X dL_law_193 ?_
    refine r_iadd X dL_law_194 ?_
    refine r_sld X S dL_law_195 ⟨by omega, by omega⟩ (by omega) ?_
    refine r_if_eq (tgt := 203) X dL_law_196 (sX_in _ _) (fun h196 => ?_) (fun h196 => ?_)
    · refine r_iconst X dL_law_203 ?_
      refine r_callVp (n := 2) X (c_X6_ill l X.2.2.1 _ _ _ (sX_in _ _) (by omega) V hV (mut_M hM h1.2)) dL_law_204 tw_622 tw_623 tw_624 tw_46 tw_625 z_c80 (by decide) rfl rfl (Nat.le_of_ble_eq_true rfl) ⟨by decide, by decide⟩ (by decide +kernel) rfl (fun z2 σ2 h2 => ?_)
      refine r_wr ?_
      refine r_icmp_eq (tgt := 985) X dL_law_207 ⟨wr_in _, wr_in _⟩ (fun h207 => ?_) (fun h207 => ?_)
      · first
        | (exfalso; omega)
        | (obtain ⟨V2, hV2⟩ := inv_mut2 hI (h1.1.trans h2.1.symm) h1.2 h2.2 (fun q => mu_ill hV (by omega) (by rw [← h1.1]; exact q))
           exact back σ2 V2 hV2)
      · first
        | (exfalso; omega)
        | exact absurd (congrArg wr (h1.1.trans h2.1.symm)) h207
    · refine r_iconst X dL_law_199 ?_
      refine r_goto (tgt := 204) X dL_law_200 (by decide) ?_
      refine r_callVp (n := 2) X (c_X6_ill l X.2.2.1 _ _ _ (sX_in _ _) (by omega) V hV (mut_M hM h1.2)) dL_law_204 tw_622 tw_623 tw_624 tw_46 tw_625 z_c80 (by decide) rfl rfl (Nat.le_of_ble_eq_true rfl) ⟨by decide, by decide⟩ (by decide +kernel) rfl (fun z2 σ2 h2 => ?_)
      refine r_wr ?_
      refine r_icmp_eq (tgt := 985) X dL_law_207 ⟨wr_in _, wr_in _⟩ (fun h207 => ?_) (fun h207 => ?_)
      · first
        | (exfalso; omega)
        | (obtain ⟨V2, hV2⟩ := inv_mut2 hI (h1.1.trans h2.1.symm) h1.2 h2.2 (fun q => mu_ill hV (by omega) (by rw [← h1.1]; exact q))
           exact back σ2 V2 hV2)
      · first
        | (exfalso; omega)
        | exact absurd (congrArg wr (h1.1.trans h2.1.symm)) h207
set_option maxRecDepth 100000 in
set_option maxHeartbeats 4000000 in
theorem law_bound {p : Program} {l : Launch} {e : Env} {s : State} {m : MethodId} {args : Array Value} {below : List Frame} {meth : Method} {c : Code} {D : va_G} {κ : Nat → ClassId} {a : Nat → Nat} {A : Nat → Prop} {kc ks : Nat} {Q : State → Prop} {b L : Nat} {xs : Nat → Int32} (X : z_X p room_1 s m args c cL_law RL 4 D κ a A kc ks) (S : zScr s A b L xs) (hL : L ≤ 3584) {i : Int} (hi : 0 ≤ i ∧ i + 6 < (L : Int)) {σ : zSt} {V : zV} (hI : zInv σ V) (back : ∀ (σ2 : zSt) (V2 : zV), zInv σ2 V2 → z_G p l e room_1 s m args below meth c 4 D κ a A kc ks Q σ2 [some (.ref b), some (.ref (a 0)), some (.ref (a 80)), some (.int (zI i))] 985 []) : z_G p l e room_1 s m args below meth c 4 D κ a A kc ks Q σ [some (.ref b), some (.ref (a 0)), some (.ref (a 80)), some (.int (zI i))] 212 [] := by
  obtain ⟨hV, hM, hS, hPl, h62, hW, hKp⟩ := id hI
  refine r_aload1 X dL_law_212 ?_
  refine r_aload0 X dL_law_213 ?_
  refine r_iload3 X dL_law_214 ?_
  refine r_iconst X dL_law_215 ?_
  refine r_iadd X dL_law_216 ?_
  refine r_sld X S dL_law_217 ⟨by omega, by omega⟩ (by omega) ?_
  refine r_aload0 X dL_law_218 ?_
  refine r_iload3 X dL_law_219 ?_
  refine r_iconst X dL_law_220 ?_
  refine r_iadd X dL_law_221 ?_
  refine r_sld X S dL_law_222 ⟨by omega, by omega⟩ (by omega) ?_
  refine r_callVp (n := 2) X (c_X5_bound l X.2.2.1 _ _ _ (sX_in _ _) (sX_in _ _) V hV hS hPl.1) dL_law_223 tw_277 tw_278 tw_279 tw_40 tw_280 z_c0 (by decide) rfl rfl (Nat.le_of_ble_eq_true rfl) ⟨by decide, by decide⟩ (by decide +kernel) rfl (fun z1 σ1 h1 => ?_)
  refine r_wr ?_
  refine r_aload2 X dL_law_226 ?_
  refine r_aload0 X dL_law_227 ?_
  refine r_iload3 X dL_law_228 ?_
  refine r_iconst X dL_law_229 ?_
  refine r_iadd X dL_law_230 ?_
  refine r_sld X S dL_law_231 ⟨by omega, by omega⟩ (by omega) ?_
  refine r_aload0 X dL_law_232 ?_
  refine r_iload3 X dL_law_233 ?_
  refine r_iconst X dL_law_234 ?_
  refine r_iadd X dL_law_235 ?_
  refine r_sld X S dL_law_236 ⟨by omega, by omega⟩ (by omega) ?_
  refine r_callVp (n := 2) X (c_X6_bound l X.2.2.1 _ _ _ (sX_in _ _) (sX_in _ _) V hV (mut_M hM h1.2)) dL_law_237 tw_630 tw_631 tw_632 tw_46 tw_633 z_c80 (by decide) rfl rfl (Nat.le_of_ble_eq_true rfl) ⟨by decide, by decide⟩ (by decide +kernel) rfl (fun z2 σ2 h2 => ?_)
  refine r_wr ?_
  refine r_icmp_eq (tgt := 985) X dL_law_240 ⟨wr_in _, wr_in _⟩ (fun h240 => ?_) (fun h240 => ?_)
  · obtain ⟨V2, hV2⟩ := inv_mut2 hI (h1.1.trans h2.1.symm) h1.2 h2.2 (fun q => mu_bound hV (by rw [← h1.1]; exact q))
    exact back σ2 V2 hV2
  · exact absurd (congrArg wr (h1.1.trans h2.1.symm)) h240
set_option maxRecDepth 100000 in
set_option maxHeartbeats 4000000 in
theorem law_picture {p : Program} {l : Launch} {e : Env} {s : State} {m : MethodId} {args : Array Value} {below : List Frame} {meth : Method} {c : Code} {D : va_G} {κ : Nat → ClassId} {a : Nat → Nat} {A : Nat → Prop} {kc ks : Nat} {Q : State → Prop} {b L : Nat} {xs : Nat → Int32} (X : z_X p room_1 s m args c cL_law RL 4 D κ a A kc ks) (S : zScr s A b L xs) (hL : L ≤ 3584) {i : Int} (hi : 0 ≤ i ∧ i + 6 < (L : Int)) {σ : zSt} {V : zV} (hI : zInv σ V) (back : ∀ (σ2 : zSt) (V2 : zV), zInv σ2 V2 → z_G p l e room_1 s m args below meth c 4 D κ a A kc ks Q σ2 [some (.ref b), some (.ref (a 0)), some (.ref (a 80)), some (.int (zI i))] 985 []) : z_G p l e room_1 s m args below meth c 4 D κ a A kc ks Q σ [some (.ref b), some (.ref (a 0)), some (.ref (a 80)), some (.int (zI i))] 245 [] := by
  obtain ⟨hV, hM, hS, hPl, h62, hW, hKp⟩ := id hI
  refine r_aload1 X dL_law_245 ?_
  refine r_aload0 X dL_law_246 ?_
  refine r_iload3 X dL_law_247 ?_
  refine r_iconst X dL_law_248 ?_
  refine r_iadd X dL_law_249 ?_
  refine r_sld X S dL_law_250 ⟨by omega, by omega⟩ (by omega) ?_
  refine r_callVp (n := 1) X (c_X5_picture l X.2.2.1 _ _ (sX_in _ _) V hV hS hPl.1) dL_law_251 tw_281 tw_282 tw_283 tw_40 tw_284 z_c0 (by decide) rfl rfl (Nat.le_of_ble_eq_true rfl) ⟨by decide, by decide⟩ (by decide +kernel) rfl (fun z1 σ1 h1 => ?_)
  refine r_wr ?_
  refine r_aload2 X dL_law_254 ?_
  refine r_aload0 X dL_law_255 ?_
  refine r_iload3 X dL_law_256 ?_
  refine r_iconst X dL_law_257 ?_
  refine r_iadd X dL_law_258 ?_
  refine r_sld X S dL_law_259 ⟨by omega, by omega⟩ (by omega) ?_
  refine r_callVp (n := 1) X (c_X6_picture l X.2.2.1 _ _ (sX_in _ _) V hV (mut_M hM h1.2)) dL_law_260 tw_634 tw_635 tw_636 tw_46 tw_637 z_c80 (by decide) rfl rfl (Nat.le_of_ble_eq_true rfl) ⟨by decide, by decide⟩ (by decide +kernel) rfl (fun z2 σ2 h2 => ?_)
  refine r_wr ?_
  refine r_icmp_eq (tgt := 985) X dL_law_263 ⟨wr_in _, wr_in _⟩ (fun h263 => ?_) (fun h263 => ?_)
  · obtain ⟨V2, hV2⟩ := inv_mut2 hI (h1.1.trans h2.1.symm) h1.2 h2.2 (fun q => mu_picture hV (by rw [← h1.1]; exact q))
    exact back σ2 V2 hV2
  · exact absurd (congrArg wr (h1.1.trans h2.1.symm)) h263
set_option maxRecDepth 100000 in
set_option maxHeartbeats 4000000 in
theorem law_counts {p : Program} {l : Launch} {e : Env} {s : State} {m : MethodId} {args : Array Value} {below : List Frame} {meth : Method} {c : Code} {D : va_G} {κ : Nat → ClassId} {a : Nat → Nat} {A : Nat → Prop} {kc ks : Nat} {Q : State → Prop} {b L : Nat} {xs : Nat → Int32} (X : z_X p room_1 s m args c cL_law RL 4 D κ a A kc ks) (S : zScr s A b L xs) (hL : L ≤ 3584) {i : Int} (hi : 0 ≤ i ∧ i + 6 < (L : Int)) {σ : zSt} {V : zV} (hI : zInv σ V) (back : ∀ (σ2 : zSt) (V2 : zV), zInv σ2 V2 → z_G p l e room_1 s m args below meth c 4 D κ a A kc ks Q σ2 [some (.ref b), some (.ref (a 0)), some (.ref (a 80)), some (.int (zI i))] 985 []) : z_G p l e room_1 s m args below meth c 4 D κ a A kc ks Q σ [some (.ref b), some (.ref (a 0)), some (.ref (a 80)), some (.int (zI i))] 268 [] := by
  obtain ⟨hV, hM, hS, hPl, h62, hW, hKp⟩ := id hI
  refine r_aload1 X dL_law_268 ?_
  refine r_aload0 X dL_law_269 ?_
  refine r_iload3 X dL_law_270 ?_
  refine r_iconst X dL_law_271 ?_
  refine r_iadd X dL_law_272 ?_
  refine r_sld X S dL_law_273 ⟨by omega, by omega⟩ (by omega) ?_
  refine r_aload0 X dL_law_274 ?_
  refine r_iload3 X dL_law_275 ?_
  refine r_iconst X dL_law_276 ?_
  refine r_iadd X dL_law_277 ?_
  refine r_sld X S dL_law_278 ⟨by omega, by omega⟩ (by omega) ?_
  refine r_callVp (n := 2) X (c_X5_counts l X.2.2.1 _ _ _ (sX_in _ _) (sX_in _ _) V hV hS hPl.1) dL_law_279 tw_289 tw_290 tw_291 tw_40 tw_292 z_c0 (by decide) rfl rfl (Nat.le_of_ble_eq_true rfl) ⟨by decide, by decide⟩ (by decide +kernel) rfl (fun z1 σ1 h1 => ?_)
  refine r_wr ?_
  refine r_aload2 X dL_law_282 ?_
  refine r_aload0 X dL_law_283 ?_
  refine r_iload3 X dL_law_284 ?_
  refine r_iconst X dL_law_285 ?_
  refine r_iadd X dL_law_286 ?_
  refine r_sld X S dL_law_287 ⟨by omega, by omega⟩ (by omega) ?_
  refine r_aload0 X dL_law_288 ?_
  refine r_iload3 X dL_law_289 ?_
  refine r_iconst X dL_law_290 ?_
  refine r_iadd X dL_law_291 ?_
  refine r_sld X S dL_law_292 ⟨by omega, by omega⟩ (by omega) ?_
  refine r_callVp (n := 2) X (c_X6_counts l X.2.2.1 _ _ _ (sX_in _ _) (sX_in _ _) V hV (mut_M hM h1.2)) dL_law_293 tw_639 tw_640 tw_641 tw_46 tw_642 z_c80 (by decide) rfl rfl (Nat.le_of_ble_eq_true rfl) ⟨by decide, by decide⟩ (by decide +kernel) rfl (fun z2 σ2 h2 => ?_)
  refine r_wr ?_
  refine r_icmp_eq (tgt := 985) X dL_law_296 ⟨wr_in _, wr_in _⟩ (fun h296 => ?_) (fun h296 => ?_)
  · obtain ⟨V2, hV2⟩ := inv_mut2 hI (h1.1.trans h2.1.symm) h1.2 h2.2 (fun q => mu_counts hV (by rw [← h1.1]; exact q))
    exact back σ2 V2 hV2
  · exact absurd (congrArg wr (h1.1.trans h2.1.symm)) h296
set_option maxRecDepth 100000 in
set_option maxHeartbeats 4000000 in
theorem law_line {p : Program} {l : Launch} {e : Env} {s : State} {m : MethodId} {args : Array Value} {below : List Frame} {meth : Method} {c : Code} {D : va_G} {κ : Nat → ClassId} {a : Nat → Nat} {A : Nat → Prop} {kc ks : Nat} {Q : State → Prop} {b L : Nat} {xs : Nat → Int32} (X : z_X p room_1 s m args c cL_law RL 4 D κ a A kc ks) (S : zScr s A b L xs) (hL : L ≤ 3584) {i : Int} (hi : 0 ≤ i ∧ i + 6 < (L : Int)) {σ : zSt} {V : zV} (hI : zInv σ V) (back : ∀ (σ2 : zSt) (V2 : zV), zInv σ2 V2 → z_G p l e room_1 s m args below meth c 4 D κ a A kc ks Q σ2 [some (.ref b), some (.ref (a 0)), some (.ref (a 80)), some (.int (zI i))] 985 []) : z_G p l e room_1 s m args below meth c 4 D κ a A kc ks Q σ [some (.ref b), some (.ref (a 0)), some (.ref (a 80)), some (.int (zI i))] 301 [] := by
  obtain ⟨hV, hM, hS, hPl, h62, hW, hKp⟩ := id hI
  refine r_aload1 X dL_law_301 ?_
  refine r_aload0 X dL_law_302 ?_
  refine r_iload3 X dL_law_303 ?_
  refine r_iconst X dL_law_304 ?_
  refine r_iadd X dL_law_305 ?_
  refine r_sld X S dL_law_306 ⟨by omega, by omega⟩ (by omega) ?_
  refine r_aload0 X dL_law_307 ?_
  refine r_iload3 X dL_law_308 ?_
  refine r_iconst X dL_law_309 ?_
  refine r_iadd X dL_law_310 ?_
  refine r_sld X S dL_law_311 ⟨by omega, by omega⟩ (by omega) ?_
  refine r_aload0 X dL_law_312 ?_
  refine r_iload3 X dL_law_313 ?_
  refine r_iconst X dL_law_314 ?_
  refine r_iadd X dL_law_315 ?_
  refine r_sld X S dL_law_316 ⟨by omega, by omega⟩ (by omega) ?_
  refine r_aload0 X dL_law_317 ?_
  refine r_iload3 X dL_law_318 ?_
  refine r_iconst X dL_law_319 ?_
  refine r_iadd X dL_law_320 ?_
  refine r_sld X S dL_law_321 ⟨by omega, by omega⟩ (by omega) ?_
  refine r_aload0 X dL_law_322 ?_
  refine r_iload3 X dL_law_323 ?_
  refine r_iconst X dL_law_324 ?_
  refine r_iadd X dL_law_325 ?_
  refine r_sld X S dL_law_326 ⟨by omega, by omega⟩ (by omega) ?_
  refine r_aload0 X dL_law_327 ?_
  refine r_iload3 X dL_law_328 ?_
  refine r_bipush X dL_law_329 (by decide +kernel) ?_
  refine r_iadd X dL_law_331 ?_
  refine r_sld X S dL_law_332 ⟨by omega, by omega⟩ (by omega) ?_
  refine r_callVp (n := 6) X (c_X5_line l X.2.2.1 _ _ _ _ _ _ _ (sX_in _ _) (sX_in _ _) (sX_in _ _) (sX_in _ _) (sX_in _ _) (sX_in _ _) V hV hS hPl.1) dL_law_333 tw_297 tw_298 tw_299 tw_40 tw_300 z_c0 (by decide) rfl rfl (Nat.le_of_ble_eq_true rfl) ⟨by decide, by decide⟩ (by decide +kernel) rfl (fun z1 σ1 h1 => ?_)
  refine r_wr ?_
  refine r_aload2 X dL_law_336 ?_
  refine r_aload0 X dL_law_337 ?_
  refine r_iload3 X dL_law_338 ?_
  refine r_iconst X dL_law_339 ?_
  refine r_iadd X dL_law_340 ?_
  refine r_sld X S dL_law_341 ⟨by omega, by omega⟩ (by omega) ?_
  refine r_aload0 X dL_law_342 ?_
  refine r_iload3 X dL_law_343 ?_
  refine r_iconst X dL_law_344 ?_
  refine r_iadd X dL_law_345 ?_
  refine r_sld X S dL_law_346 ⟨by omega, by omega⟩ (by omega) ?_
  refine r_aload0 X dL_law_347 ?_
  refine r_iload3 X dL_law_348 ?_
  refine r_iconst X dL_law_349 ?_
  refine r_iadd X dL_law_350 ?_
  refine r_sld X S dL_law_351 ⟨by omega, by omega⟩ (by omega) ?_
  refine r_aload0 X dL_law_352 ?_
  refine r_iload3 X dL_law_353 ?_
  refine r_iconst X dL_law_354 ?_
  refine r_iadd X dL_law_355 ?_
  refine r_sld X S dL_law_356 ⟨by omega, by omega⟩ (by omega) ?_
  refine r_aload0 X dL_law_357 ?_
  refine r_iload3 X dL_law_358 ?_
  refine r_iconst X dL_law_359 ?_
  refine r_iadd X dL_law_360 ?_
  refine r_sld X S dL_law_361 ⟨by omega, by omega⟩ (by omega) ?_
  refine r_aload0 X dL_law_362 ?_
  refine r_iload3 X dL_law_363 ?_
  refine r_bipush X dL_law_364 (by decide +kernel) ?_
  refine r_iadd X dL_law_366 ?_
  refine r_sld X S dL_law_367 ⟨by omega, by omega⟩ (by omega) ?_
  refine r_callVp (n := 6) X (c_X6_line l X.2.2.1 _ _ _ _ _ _ _ (sX_in _ _) (sX_in _ _) (sX_in _ _) (sX_in _ _) (sX_in _ _) (sX_in _ _) V hV (mut_M hM h1.2)) dL_law_368 tw_647 tw_648 tw_649 tw_46 tw_650 z_c80 (by decide) rfl rfl (Nat.le_of_ble_eq_true rfl) ⟨by decide, by decide⟩ (by decide +kernel) rfl (fun z2 σ2 h2 => ?_)
  refine r_wr ?_
  refine r_icmp_eq (tgt := 985) X dL_law_371 ⟨wr_in _, wr_in _⟩ (fun h371 => ?_) (fun h371 => ?_)
  · obtain ⟨V2, hV2⟩ := inv_mut2 hI (h1.1.trans h2.1.symm) h1.2 h2.2 (fun q => mu_line hV (by rw [← h1.1]; exact q))
    exact back σ2 V2 hV2
  · exact absurd (congrArg wr (h1.1.trans h2.1.symm)) h371
set_option maxRecDepth 100000 in
set_option maxHeartbeats 4000000 in
theorem law_block {p : Program} {l : Launch} {e : Env} {s : State} {m : MethodId} {args : Array Value} {below : List Frame} {meth : Method} {c : Code} {D : va_G} {κ : Nat → ClassId} {a : Nat → Nat} {A : Nat → Prop} {kc ks : Nat} {Q : State → Prop} {b L : Nat} {xs : Nat → Int32} (X : z_X p room_1 s m args c cL_law RL 4 D κ a A kc ks) (S : zScr s A b L xs) (hL : L ≤ 3584) {i : Int} (hi : 0 ≤ i ∧ i + 6 < (L : Int)) {σ : zSt} {V : zV} (hI : zInv σ V) (back : ∀ (σ2 : zSt) (V2 : zV), zInv σ2 V2 → z_G p l e room_1 s m args below meth c 4 D κ a A kc ks Q σ2 [some (.ref b), some (.ref (a 0)), some (.ref (a 80)), some (.int (zI i))] 985 []) : z_G p l e room_1 s m args below meth c 4 D κ a A kc ks Q σ [some (.ref b), some (.ref (a 0)), some (.ref (a 80)), some (.int (zI i))] 376 [] := by
  obtain ⟨hV, hM, hS, hPl, h62, hW, hKp⟩ := id hI
  refine r_aload1 X dL_law_376 ?_
  refine r_aload0 X dL_law_377 ?_
  refine r_iload3 X dL_law_378 ?_
  refine r_iconst X dL_law_379 ?_
  refine r_iadd X dL_law_380 ?_
  refine r_sld X S dL_law_381 ⟨by omega, by omega⟩ (by omega) ?_
  refine r_aload0 X dL_law_382 ?_
  refine r_iload3 X dL_law_383 ?_
  refine r_iconst X dL_law_384 ?_
  refine r_iadd X dL_law_385 ?_
  refine r_sld X S dL_law_386 ⟨by omega, by omega⟩ (by omega) ?_
  refine r_aload0 X dL_law_387 ?_
  refine r_iload3 X dL_law_388 ?_
  refine r_iconst X dL_law_389 ?_
  refine r_iadd X dL_law_390 ?_
  refine r_sld X S dL_law_391 ⟨by omega, by omega⟩ (by omega) ?_
  refine r_aload0 X dL_law_392 ?_
  refine r_iload3 X dL_law_393 ?_
  refine r_iconst X dL_law_394 ?_
  refine r_iadd X dL_law_395 ?_
  refine r_sld X S dL_law_396 ⟨by omega, by omega⟩ (by omega) ?_
  refine r_aload0 X dL_law_397 ?_
  refine r_iload3 X dL_law_398 ?_
  refine r_iconst X dL_law_399 ?_
  refine r_iadd X dL_law_400 ?_
  refine r_sld X S dL_law_401 ⟨by omega, by omega⟩ (by omega) ?_
  refine r_aload0 X dL_law_402 ?_
  refine r_iload3 X dL_law_403 ?_
  refine r_bipush X dL_law_404 (by decide +kernel) ?_
  refine r_iadd X dL_law_406 ?_
  refine r_sld X S dL_law_407 ⟨by omega, by omega⟩ (by omega) ?_
  refine r_callVp (n := 6) X (c_X5_block l X.2.2.1 _ _ _ _ _ _ _ (sX_in _ _) (sX_in _ _) (sX_in _ _) (sX_in _ _) (sX_in _ _) (sX_in _ _) V hV hS hPl.1) dL_law_408 tw_336 tw_337 tw_338 tw_40 tw_339 z_c0 (by decide) rfl rfl (Nat.le_of_ble_eq_true rfl) ⟨by decide, by decide⟩ (by decide +kernel) rfl (fun z1 σ1 h1 => ?_)
  refine r_wr ?_
  refine r_aload2 X dL_law_411 ?_
  refine r_aload0 X dL_law_412 ?_
  refine r_iload3 X dL_law_413 ?_
  refine r_iconst X dL_law_414 ?_
  refine r_iadd X dL_law_415 ?_
  refine r_sld X S dL_law_416 ⟨by omega, by omega⟩ (by omega) ?_
  refine r_aload0 X dL_law_417 ?_
  refine r_iload3 X dL_law_418 ?_
  refine r_iconst X dL_law_419 ?_
  refine r_iadd X dL_law_420 ?_
  refine r_sld X S dL_law_421 ⟨by omega, by omega⟩ (by omega) ?_
  refine r_aload0 X dL_law_422 ?_
  refine r_iload3 X dL_law_423 ?_
  refine r_iconst X dL_law_424 ?_
  refine r_iadd X dL_law_425 ?_
  refine r_sld X S dL_law_426 ⟨by omega, by omega⟩ (by omega) ?_
  refine r_aload0 X dL_law_427 ?_
  refine r_iload3 X dL_law_428 ?_
  refine r_iconst X dL_law_429 ?_
  refine r_iadd X dL_law_430 ?_
  refine r_sld X S dL_law_431 ⟨by omega, by omega⟩ (by omega) ?_
  refine r_aload0 X dL_law_432 ?_
  refine r_iload3 X dL_law_433 ?_
  refine r_iconst X dL_law_434 ?_
  refine r_iadd X dL_law_435 ?_
  refine r_sld X S dL_law_436 ⟨by omega, by omega⟩ (by omega) ?_
  refine r_aload0 X dL_law_437 ?_
  refine r_iload3 X dL_law_438 ?_
  refine r_bipush X dL_law_439 (by decide +kernel) ?_
  refine r_iadd X dL_law_441 ?_
  refine r_sld X S dL_law_442 ⟨by omega, by omega⟩ (by omega) ?_
  refine r_callVp (n := 6) X (c_X6_block l X.2.2.1 _ _ _ _ _ _ _ (sX_in _ _) (sX_in _ _) (sX_in _ _) (sX_in _ _) (sX_in _ _) (sX_in _ _) V hV (mut_M hM h1.2)) dL_law_443 tw_671 tw_672 tw_673 tw_46 tw_674 z_c80 (by decide) rfl rfl (Nat.le_of_ble_eq_true rfl) ⟨by decide, by decide⟩ (by decide +kernel) rfl (fun z2 σ2 h2 => ?_)
  refine r_wr ?_
  refine r_icmp_eq (tgt := 985) X dL_law_446 ⟨wr_in _, wr_in _⟩ (fun h446 => ?_) (fun h446 => ?_)
  · obtain ⟨V2, hV2⟩ := inv_mut2 hI (h1.1.trans h2.1.symm) h1.2 h2.2 (fun q => mu_block hV (by rw [← h1.1]; exact q))
    exact back σ2 V2 hV2
  · exact absurd (congrArg wr (h1.1.trans h2.1.symm)) h446
set_option maxRecDepth 100000 in
set_option maxHeartbeats 4000000 in
theorem law_corner {p : Program} {l : Launch} {e : Env} {s : State} {m : MethodId} {args : Array Value} {below : List Frame} {meth : Method} {c : Code} {D : va_G} {κ : Nat → ClassId} {a : Nat → Nat} {A : Nat → Prop} {kc ks : Nat} {Q : State → Prop} {b L : Nat} {xs : Nat → Int32} (X : z_X p room_1 s m args c cL_law RL 4 D κ a A kc ks) (S : zScr s A b L xs) (hL : L ≤ 3584) {i : Int} (hi : 0 ≤ i ∧ i + 6 < (L : Int)) {σ : zSt} {V : zV} (hI : zInv σ V) (back : ∀ (σ2 : zSt) (V2 : zV), zInv σ2 V2 → z_G p l e room_1 s m args below meth c 4 D κ a A kc ks Q σ2 [some (.ref b), some (.ref (a 0)), some (.ref (a 80)), some (.int (zI i))] 985 []) : z_G p l e room_1 s m args below meth c 4 D κ a A kc ks Q σ [some (.ref b), some (.ref (a 0)), some (.ref (a 80)), some (.int (zI i))] 451 [] := by
  obtain ⟨hV, hM, hS, hPl, h62, hW, hKp⟩ := id hI
  refine r_aload1 X dL_law_451 ?_
  refine r_aload0 X dL_law_452 ?_
  refine r_iload3 X dL_law_453 ?_
  refine r_iconst X dL_law_454 ?_
  refine r_iadd X dL_law_455 ?_
  refine r_sld X S dL_law_456 ⟨by omega, by omega⟩ (by omega) ?_
  refine r_aload0 X dL_law_457 ?_
  refine r_iload3 X dL_law_458 ?_
  refine r_iconst X dL_law_459 ?_
  refine r_iadd X dL_law_460 ?_
  refine r_sld X S dL_law_461 ⟨by omega, by omega⟩ (by omega) ?_
  refine r_aload0 X dL_law_462 ?_
  refine r_iload3 X dL_law_463 ?_
  refine r_iconst X dL_law_464 ?_
  refine r_iadd X dL_law_465 ?_
  refine r_sld X S dL_law_466 ⟨by omega, by omega⟩ (by omega) ?_
  refine r_aload0 X dL_law_467 ?_
  refine r_iload3 X dL_law_468 ?_
  refine r_iconst X dL_law_469 ?_
  refine r_iadd X dL_law_470 ?_
  refine r_sld X S dL_law_471 ⟨by omega, by omega⟩ (by omega) ?_
  refine r_aload0 X dL_law_472 ?_
  refine r_iload3 X dL_law_473 ?_
  refine r_iconst X dL_law_474 ?_
  refine r_iadd X dL_law_475 ?_
  refine r_sld X S dL_law_476 ⟨by omega, by omega⟩ (by omega) ?_
  refine r_callVp (n := 5) X (c_X5_corner l X.2.2.1 _ _ _ _ _ _ (sX_in _ _) (sX_in _ _) (sX_in _ _) (sX_in _ _) (sX_in _ _) V hV hS hPl.1) dL_law_477 tw_344 tw_345 tw_346 tw_40 tw_347 z_c0 (by decide) rfl rfl (Nat.le_of_ble_eq_true rfl) ⟨by decide, by decide⟩ (by decide +kernel) rfl (fun z1 σ1 h1 => ?_)
  refine r_wr ?_
  refine r_aload2 X dL_law_480 ?_
  refine r_aload0 X dL_law_481 ?_
  refine r_iload3 X dL_law_482 ?_
  refine r_iconst X dL_law_483 ?_
  refine r_iadd X dL_law_484 ?_
  refine r_sld X S dL_law_485 ⟨by omega, by omega⟩ (by omega) ?_
  refine r_aload0 X dL_law_486 ?_
  refine r_iload3 X dL_law_487 ?_
  refine r_iconst X dL_law_488 ?_
  refine r_iadd X dL_law_489 ?_
  refine r_sld X S dL_law_490 ⟨by omega, by omega⟩ (by omega) ?_
  refine r_aload0 X dL_law_491 ?_
  refine r_iload3 X dL_law_492 ?_
  refine r_iconst X dL_law_493 ?_
  refine r_iadd X dL_law_494 ?_
  refine r_sld X S dL_law_495 ⟨by omega, by omega⟩ (by omega) ?_
  refine r_aload0 X dL_law_496 ?_
  refine r_iload3 X dL_law_497 ?_
  refine r_iconst X dL_law_498 ?_
  refine r_iadd X dL_law_499 ?_
  refine r_sld X S dL_law_500 ⟨by omega, by omega⟩ (by omega) ?_
  refine r_aload0 X dL_law_501 ?_
  refine r_iload3 X dL_law_502 ?_
  refine r_iconst X dL_law_503 ?_
  refine r_iadd X dL_law_504 ?_
  refine r_sld X S dL_law_505 ⟨by omega, by omega⟩ (by omega) ?_
  refine r_callVp (n := 5) X (c_X6_corner l X.2.2.1 _ _ _ _ _ _ (sX_in _ _) (sX_in _ _) (sX_in _ _) (sX_in _ _) (sX_in _ _) V hV (mut_M hM h1.2)) dL_law_506 tw_676 tw_677 tw_678 tw_46 tw_679 z_c80 (by decide) rfl rfl (Nat.le_of_ble_eq_true rfl) ⟨by decide, by decide⟩ (by decide +kernel) rfl (fun z2 σ2 h2 => ?_)
  refine r_wr ?_
  refine r_icmp_eq (tgt := 985) X dL_law_509 ⟨wr_in _, wr_in _⟩ (fun h509 => ?_) (fun h509 => ?_)
  · obtain ⟨V2, hV2⟩ := inv_mut2 hI (h1.1.trans h2.1.symm) h1.2 h2.2 (fun q => mu_corner hV (by rw [← h1.1]; exact q))
    exact back σ2 V2 hV2
  · exact absurd (congrArg wr (h1.1.trans h2.1.symm)) h509
set_option maxRecDepth 100000 in
set_option maxHeartbeats 4000000 in
theorem law_solo {p : Program} {l : Launch} {e : Env} {s : State} {m : MethodId} {args : Array Value} {below : List Frame} {meth : Method} {c : Code} {D : va_G} {κ : Nat → ClassId} {a : Nat → Nat} {A : Nat → Prop} {kc ks : Nat} {Q : State → Prop} {b L : Nat} {xs : Nat → Int32} (X : z_X p room_1 s m args c cL_law RL 4 D κ a A kc ks) (S : zScr s A b L xs) (hL : L ≤ 3584) {i : Int} (hi : 0 ≤ i ∧ i + 6 < (L : Int)) {σ : zSt} {V : zV} (hI : zInv σ V) (back : ∀ (σ2 : zSt) (V2 : zV), zInv σ2 V2 → z_G p l e room_1 s m args below meth c 4 D κ a A kc ks Q σ2 [some (.ref b), some (.ref (a 0)), some (.ref (a 80)), some (.int (zI i))] 985 []) : z_G p l e room_1 s m args below meth c 4 D κ a A kc ks Q σ [some (.ref b), some (.ref (a 0)), some (.ref (a 80)), some (.int (zI i))] 514 [] := by
  obtain ⟨hV, hM, hS, hPl, h62, hW, hKp⟩ := id hI
  refine r_aload1 X dL_law_514 ?_
  refine r_aload0 X dL_law_515 ?_
  refine r_iload3 X dL_law_516 ?_
  refine r_iconst X dL_law_517 ?_
  refine r_iadd X dL_law_518 ?_
  refine r_sld X S dL_law_519 ⟨by omega, by omega⟩ (by omega) ?_
  refine r_aload0 X dL_law_520 ?_
  refine r_iload3 X dL_law_521 ?_
  refine r_iconst X dL_law_522 ?_
  refine r_iadd X dL_law_523 ?_
  refine r_sld X S dL_law_524 ⟨by omega, by omega⟩ (by omega) ?_
  refine r_aload0 X dL_law_525 ?_
  refine r_iload3 X dL_law_526 ?_
  refine r_iconst X dL_law_527 ?_
  refine r_iadd X dL_law_528 ?_
  refine r_sld X S dL_law_529 ⟨by omega, by omega⟩ (by omega) ?_
  refine r_if_eq (tgt := 537) X dL_law_530 (sX_in _ _) (fun h530 => ?_) (fun h530 => ?_)
  · refine r_iconst X dL_law_537 ?_
    refine r_callVp (n := 3) X (c_X5_solo l X.2.2.1 _ _ _ _ (sX_in _ _) (sX_in _ _) (by omega) V hV hS hPl.1) dL_law_538 tw_352 tw_353 tw_354 tw_40 tw_355 z_c0 (by decide) rfl rfl (Nat.le_of_ble_eq_true rfl) ⟨by decide, by decide⟩ (by decide +kernel) rfl (fun z1 σ1 h1 => ?_)
    refine r_wr ?_
    refine r_aload2 X dL_law_541 ?_
    refine r_aload0 X dL_law_542 ?_
    refine r_iload3 X dL_law_543 ?_
    refine r_iconst X dL_law_544 ?_
    refine r_iadd X dL_law_545 ?_
    refine r_sld X S dL_law_546 ⟨by omega, by omega⟩ (by omega) ?_
    refine r_aload0 X dL_law_547 ?_
    refine r_iload3 X dL_law_548 ?_
    refine r_iconst X dL_law_549 ?_
    refine r_iadd X dL_law_550 ?_
    refine r_sld X S dL_law_551 ⟨by omega, by omega⟩ (by omega) ?_
    refine r_aload0 X dL_law_552 ?_
    refine r_iload3 X dL_law_553 ?_
    refine r_iconst X dL_law_554 ?_
    refine r_iadd X dL_law_555 ?_
    refine r_sld X S dL_law_556 ⟨by omega, by omega⟩ (by omega) ?_
    refine r_if_eq (tgt := 564) X dL_law_557 (sX_in _ _) (fun h557 => ?_) (fun h557 => ?_)
    · refine r_iconst X dL_law_564 ?_
      refine r_callVp (n := 3) X (c_X6_solo l X.2.2.1 _ _ _ _ (sX_in _ _) (sX_in _ _) (by omega) V hV (mut_M hM h1.2)) dL_law_565 tw_680 tw_681 tw_682 tw_46 tw_683 z_c80 (by decide) rfl rfl (Nat.le_of_ble_eq_true rfl) ⟨by decide, by decide⟩ (by decide +kernel) rfl (fun z2 σ2 h2 => ?_)
      refine r_wr ?_
      refine r_icmp_eq (tgt := 985) X dL_law_568 ⟨wr_in _, wr_in _⟩ (fun h568 => ?_) (fun h568 => ?_)
      · first
        | (exfalso; omega)
        | (obtain ⟨V2, hV2⟩ := inv_mut2 hI (h1.1.trans h2.1.symm) h1.2 h2.2 (fun q => mu_solo hV (by omega) (by rw [← h1.1]; exact q))
           exact back σ2 V2 hV2)
      · first
        | (exfalso; omega)
        | exact absurd (congrArg wr (h1.1.trans h2.1.symm)) h568
    · refine r_iconst X dL_law_560 ?_
      refine r_goto (tgt := 565) X dL_law_561 (by decide) ?_
      refine r_callVp (n := 3) X (c_X6_solo l X.2.2.1 _ _ _ _ (sX_in _ _) (sX_in _ _) (by omega) V hV (mut_M hM h1.2)) dL_law_565 tw_680 tw_681 tw_682 tw_46 tw_683 z_c80 (by decide) rfl rfl (Nat.le_of_ble_eq_true rfl) ⟨by decide, by decide⟩ (by decide +kernel) rfl (fun z2 σ2 h2 => ?_)
      refine r_wr ?_
      refine r_icmp_eq (tgt := 985) X dL_law_568 ⟨wr_in _, wr_in _⟩ (fun h568 => ?_) (fun h568 => ?_)
      · first
        | (exfalso; omega)
        | (obtain ⟨V2, hV2⟩ := inv_mut2 hI (h1.1.trans h2.1.symm) h1.2 h2.2 (fun q => mu_solo hV (by omega) (by rw [← h1.1]; exact q))
           exact back σ2 V2 hV2)
      · first
        | (exfalso; omega)
        | exact absurd (congrArg wr (h1.1.trans h2.1.symm)) h568
  · refine r_iconst X dL_law_533 ?_
    refine r_goto (tgt := 538) X dL_law_534 (by decide) ?_
    refine r_callVp (n := 3) X (c_X5_solo l X.2.2.1 _ _ _ _ (sX_in _ _) (sX_in _ _) (by omega) V hV hS hPl.1) dL_law_538 tw_352 tw_353 tw_354 tw_40 tw_355 z_c0 (by decide) rfl rfl (Nat.le_of_ble_eq_true rfl) ⟨by decide, by decide⟩ (by decide +kernel) rfl (fun z1 σ1 h1 => ?_)
    refine r_wr ?_
    refine r_aload2 X dL_law_541 ?_
    refine r_aload0 X dL_law_542 ?_
    refine r_iload3 X dL_law_543 ?_
    refine r_iconst X dL_law_544 ?_
    refine r_iadd X dL_law_545 ?_
    refine r_sld X S dL_law_546 ⟨by omega, by omega⟩ (by omega) ?_
    refine r_aload0 X dL_law_547 ?_
    refine r_iload3 X dL_law_548 ?_
    refine r_iconst X dL_law_549 ?_
    refine r_iadd X dL_law_550 ?_
    refine r_sld X S dL_law_551 ⟨by omega, by omega⟩ (by omega) ?_
    refine r_aload0 X dL_law_552 ?_
    refine r_iload3 X dL_law_553 ?_
    refine r_iconst X dL_law_554 ?_
    refine r_iadd X dL_law_555 ?_
    refine r_sld X S dL_law_556 ⟨by omega, by omega⟩ (by omega) ?_
    refine r_if_eq (tgt := 564) X dL_law_557 (sX_in _ _) (fun h557 => ?_) (fun h557 => ?_)
    · refine r_iconst X dL_law_564 ?_
      refine r_callVp (n := 3) X (c_X6_solo l X.2.2.1 _ _ _ _ (sX_in _ _) (sX_in _ _) (by omega) V hV (mut_M hM h1.2)) dL_law_565 tw_680 tw_681 tw_682 tw_46 tw_683 z_c80 (by decide) rfl rfl (Nat.le_of_ble_eq_true rfl) ⟨by decide, by decide⟩ (by decide +kernel) rfl (fun z2 σ2 h2 => ?_)
      refine r_wr ?_
      refine r_icmp_eq (tgt := 985) X dL_law_568 ⟨wr_in _, wr_in _⟩ (fun h568 => ?_) (fun h568 => ?_)
      · first
        | (exfalso; omega)
        | (obtain ⟨V2, hV2⟩ := inv_mut2 hI (h1.1.trans h2.1.symm) h1.2 h2.2 (fun q => mu_solo hV (by omega) (by rw [← h1.1]; exact q))
           exact back σ2 V2 hV2)
      · first
        | (exfalso; omega)
        | exact absurd (congrArg wr (h1.1.trans h2.1.symm)) h568
    · refine r_iconst X dL_law_560 ?_
      refine r_goto (tgt := 565) X dL_law_561 (by decide) ?_
      refine r_callVp (n := 3) X (c_X6_solo l X.2.2.1 _ _ _ _ (sX_in _ _) (sX_in _ _) (by omega) V hV (mut_M hM h1.2)) dL_law_565 tw_680 tw_681 tw_682 tw_46 tw_683 z_c80 (by decide) rfl rfl (Nat.le_of_ble_eq_true rfl) ⟨by decide, by decide⟩ (by decide +kernel) rfl (fun z2 σ2 h2 => ?_)
      refine r_wr ?_
      refine r_icmp_eq (tgt := 985) X dL_law_568 ⟨wr_in _, wr_in _⟩ (fun h568 => ?_) (fun h568 => ?_)
      · first
        | (exfalso; omega)
        | (obtain ⟨V2, hV2⟩ := inv_mut2 hI (h1.1.trans h2.1.symm) h1.2 h2.2 (fun q => mu_solo hV (by omega) (by rw [← h1.1]; exact q))
           exact back σ2 V2 hV2)
      · first
        | (exfalso; omega)
        | exact absurd (congrArg wr (h1.1.trans h2.1.symm)) h568
