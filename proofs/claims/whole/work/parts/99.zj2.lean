set_option maxHeartbeats 4000000 in
set_option maxRecDepth 100000 in
theorem law_supply {p : Program} {l : Launch} {e : Env} {s : State} {m : MethodId} {below : List Frame} {meth : Method} {c : Code} {A : Nat → Prop} {Q : State → Prop} {G : Gy} {Z : Ky} {cB : ClassId} {b L : Nat} {xs : Nat → Int32} {σ : St} {i : Int} {cells slots : Nat} (hG : Inj G) (hC : Cx p s m #[.ref b] meth c A s.heap 4 G code RL wsL_law) (hX : XKK G Z cB A s) (hS : va_X b L xs s s.heap) (hb : b < s.heap.size) (hA : ¬ A b) (hL : L ≤ 2560) (hi : 0 ≤ i ∧ i + 5 ≤ L) (hr : cells + 16 ≤ 600000 ∧ slots + 3004 ≤ 7302250) (h : INV σ) (kk : ∀ σ2, INV σ2 → wpx p l e room_1 s m #[.ref b] below meth c A s.heap 4 Q G [] (cells + 16) (slots + 3004) σ2 1130 [(0, .ref b), (1, .ref (G.2.2 82)), (2, .ref (G.2.2 0)), (3, .int (zI i))] []) : wpx p l e room_1 s m #[.ref b] below meth c A s.heap 4 Q G [] cells slots σ 180 [(0, .ref b), (1, .ref (G.2.2 82)), (2, .ref (G.2.2 0)), (3, .int (zI i))] [] := by
  refine wpx_aload_n hC dlaw_180 rfl ?_
  refine wpx_aload_n hC dlaw_181 rfl ?_
  refine wpx_iload_n hC dlaw_182 rfl ?_
  refine wpx_iconst hC dlaw_183 ?_
  refine wpx_iadd hC dlaw_184 ?_
  refine wpx_sld hC hS hb hA hL (by omega) dlaw_185 ?_
  refine wpx_aload_n hC dlaw_186 rfl ?_
  refine wpx_iload_n hC dlaw_187 rfl ?_
  refine wpx_iconst hC dlaw_188 ?_
  refine wpx_iadd hC dlaw_189 ?_
  refine wpx_sld hC hS hb hA hL (by omega) dlaw_190 ?_
  refine wpx_aload_n hC dlaw_191 rfl ?_
  refine wpx_iload_n hC dlaw_192 rfl ?_
  refine wpx_iconst hC dlaw_193 ?_
  refine wpx_iadd hC dlaw_194 ?_
  refine wpx_sld hC hS hb hA hL (by omega) dlaw_195 ?_
  refine wpx_callVi (As := [_, _, _]) hC (c_X8_supply hG σ (I_xo h) (I_xl h) sv_iR sv_iR sv_iR) gL_law_X8_supply rfl ⟨rfl, rfl⟩ ⟨by decide, by decide⟩ hyVX8_supply rfl (by decide) rfl rfl (Nat.le_of_ble_eq_true rfl) ⟨by show cells + 0 ≤ 600000; omega, by show slots + 0 ≤ 7302250; omega⟩ dlaw_196 (fun x1 σ1 hx1 hp1 => ?_)
  have f : LQ σ1 σ := f_supply hp1
  refine wpx_aload_n hC dlaw_199 rfl ?_
  refine wpx_aload_n hC dlaw_200 rfl ?_
  refine wpx_iload_n hC dlaw_201 rfl ?_
  refine wpx_iconst hC dlaw_202 ?_
  refine wpx_iadd hC dlaw_203 ?_
  refine wpx_sld hC hS hb hA hL (by omega) dlaw_204 ?_
  refine wpx_aload_n hC dlaw_205 rfl ?_
  refine wpx_iload_n hC dlaw_206 rfl ?_
  refine wpx_iconst hC dlaw_207 ?_
  refine wpx_iadd hC dlaw_208 ?_
  refine wpx_sld hC hS hb hA hL (by omega) dlaw_209 ?_
  refine wpx_aload_n hC dlaw_210 rfl ?_
  refine wpx_iload_n hC dlaw_211 rfl ?_
  refine wpx_iconst hC dlaw_212 ?_
  refine wpx_iadd hC dlaw_213 ?_
  refine wpx_sld hC hS hb hA hL (by omega) dlaw_214 ?_
  refine wpx_callVi (As := [_, _, _]) hC (c_X9_supply hG σ1 (F_ro h f) (F_hd h f) sv_iR sv_iR sv_iR) gL_law_X9_supply rfl ⟨rfl, rfl⟩ ⟨by decide, by decide⟩ hyVX9_supply rfl (by decide) rfl rfl (Nat.le_of_ble_eq_true rfl) ⟨by show cells + 0 ≤ 600000; omega, by show slots + 0 ≤ 7302250; omega⟩ dlaw_215 (fun y1 σ2 hy1 hp2 => ?_)
  obtain ⟨exy, hI⟩ := s_supply h hp1 hp2
  refine wpx_icmp_eq (tgt := 1130) hC dlaw_218 (by decide) hx1 hy1 (fun _ => ?_) (fun c_1 => absurd exy c_1)
  refine wpx_more (cells2 := cells + 16) (slots2 := slots + 3004) (by omega) (by omega) ?_
  exact kk σ2 hI

set_option maxHeartbeats 4000000 in
set_option maxRecDepth 100000 in
theorem law_supplied {p : Program} {l : Launch} {e : Env} {s : State} {m : MethodId} {below : List Frame} {meth : Method} {c : Code} {A : Nat → Prop} {Q : State → Prop} {G : Gy} {Z : Ky} {cB : ClassId} {b L : Nat} {xs : Nat → Int32} {σ : St} {i : Int} {cells slots : Nat} (hG : Inj G) (hC : Cx p s m #[.ref b] meth c A s.heap 4 G code RL wsL_law) (hX : XKK G Z cB A s) (hS : va_X b L xs s s.heap) (hb : b < s.heap.size) (hA : ¬ A b) (hL : L ≤ 2560) (hi : 0 ≤ i ∧ i + 5 ≤ L) (hr : cells + 16 ≤ 600000 ∧ slots + 3004 ≤ 7302250) (h : INV σ) (kk : ∀ σ2, INV σ2 → wpx p l e room_1 s m #[.ref b] below meth c A s.heap 4 Q G [] (cells + 16) (slots + 3004) σ2 1130 [(0, .ref b), (1, .ref (G.2.2 82)), (2, .ref (G.2.2 0)), (3, .int (zI i))] []) : wpx p l e room_1 s m #[.ref b] below meth c A s.heap 4 Q G [] cells slots σ 223 [(0, .ref b), (1, .ref (G.2.2 82)), (2, .ref (G.2.2 0)), (3, .int (zI i))] [] := by
  refine wpx_aload_n hC dlaw_223 rfl ?_
  refine wpx_aload_n hC dlaw_224 rfl ?_
  refine wpx_iload_n hC dlaw_225 rfl ?_
  refine wpx_iconst hC dlaw_226 ?_
  refine wpx_iadd hC dlaw_227 ?_
  refine wpx_sld hC hS hb hA hL (by omega) dlaw_228 ?_
  refine wpx_aload_n hC dlaw_229 rfl ?_
  refine wpx_iload_n hC dlaw_230 rfl ?_
  refine wpx_iconst hC dlaw_231 ?_
  refine wpx_iadd hC dlaw_232 ?_
  refine wpx_sld hC hS hb hA hL (by omega) dlaw_233 ?_
  refine wpx_callVi (As := [_, _]) hC (c_X8_supplied hG σ (I_xo h) sv_iR sv_iR) gL_law_X8_supplied rfl ⟨rfl, rfl⟩ ⟨by decide, by decide⟩ hyVX8_supplied rfl (by decide) rfl rfl (Nat.le_of_ble_eq_true rfl) ⟨by show cells + 0 ≤ 600000; omega, by show slots + 0 ≤ 7302250; omega⟩ dlaw_234 (fun x1 σ1 hx1 hp1 => ?_)
  have f : LQ σ1 σ := by
    rw [hp1.2]
    exact LQ_r
  refine wpx_aload_n hC dlaw_237 rfl ?_
  refine wpx_aload_n hC dlaw_238 rfl ?_
  refine wpx_iload_n hC dlaw_239 rfl ?_
  refine wpx_iconst hC dlaw_240 ?_
  refine wpx_iadd hC dlaw_241 ?_
  refine wpx_sld hC hS hb hA hL (by omega) dlaw_242 ?_
  refine wpx_aload_n hC dlaw_243 rfl ?_
  refine wpx_iload_n hC dlaw_244 rfl ?_
  refine wpx_iconst hC dlaw_245 ?_
  refine wpx_iadd hC dlaw_246 ?_
  refine wpx_sld hC hS hb hA hL (by omega) dlaw_247 ?_
  refine wpx_callVi (As := [_, _]) hC (c_X9_supplied hG σ1 (F_ro h f) sv_iR sv_iR) gL_law_X9_supplied rfl ⟨rfl, rfl⟩ ⟨by decide, by decide⟩ hyVX9_supplied rfl (by decide) rfl rfl (Nat.le_of_ble_eq_true rfl) ⟨by show cells + 0 ≤ 600000; omega, by show slots + 0 ≤ 7302250; omega⟩ dlaw_248 (fun y1 σ2 hy1 hp2 => ?_)
  obtain ⟨exy, hI⟩ := s_supplied h hp1 hp2
  refine wpx_icmp_eq (tgt := 1130) hC dlaw_251 (by decide) hx1 hy1 (fun _ => ?_) (fun c_1 => absurd exy c_1)
  refine wpx_more (cells2 := cells + 16) (slots2 := slots + 3004) (by omega) (by omega) ?_
  exact kk σ2 hI

set_option maxHeartbeats 4000000 in
set_option maxRecDepth 100000 in
theorem law_share {p : Program} {l : Launch} {e : Env} {s : State} {m : MethodId} {below : List Frame} {meth : Method} {c : Code} {A : Nat → Prop} {Q : State → Prop} {G : Gy} {Z : Ky} {cB : ClassId} {b L : Nat} {xs : Nat → Int32} {σ : St} {i : Int} {cells slots : Nat} (hG : Inj G) (hC : Cx p s m #[.ref b] meth c A s.heap 4 G code RL wsL_law) (hX : XKK G Z cB A s) (hS : va_X b L xs s s.heap) (hb : b < s.heap.size) (hA : ¬ A b) (hL : L ≤ 2560) (hi : 0 ≤ i ∧ i + 5 ≤ L) (hr : cells + 16 ≤ 600000 ∧ slots + 3004 ≤ 7302250) (h : INV σ) (kk : ∀ σ2, INV σ2 → wpx p l e room_1 s m #[.ref b] below meth c A s.heap 4 Q G [] (cells + 16) (slots + 3004) σ2 1130 [(0, .ref b), (1, .ref (G.2.2 82)), (2, .ref (G.2.2 0)), (3, .int (zI i))] []) : wpx p l e room_1 s m #[.ref b] below meth c A s.heap 4 Q G [] cells slots σ 256 [(0, .ref b), (1, .ref (G.2.2 82)), (2, .ref (G.2.2 0)), (3, .int (zI i))] [] := by
  refine wpx_aload_n hC dlaw_256 rfl ?_
  refine wpx_aload_n hC dlaw_257 rfl ?_
  refine wpx_iload_n hC dlaw_258 rfl ?_
  refine wpx_iconst hC dlaw_259 ?_
  refine wpx_iadd hC dlaw_260 ?_
  refine wpx_sld hC hS hb hA hL (by omega) dlaw_261 ?_
  refine wpx_aload_n hC dlaw_262 rfl ?_
  refine wpx_iload_n hC dlaw_263 rfl ?_
  refine wpx_iconst hC dlaw_264 ?_
  refine wpx_iadd hC dlaw_265 ?_
  refine wpx_sld hC hS hb hA hL (by omega) dlaw_266 ?_
  refine wpx_callVi (As := [_, _]) hC (c_X8_share hG σ (I_xo h) (I_xl h) sv_iR sv_iR) gL_law_X8_share rfl ⟨rfl, rfl⟩ ⟨by decide, by decide⟩ hyVX8_share rfl (by decide) rfl rfl (Nat.le_of_ble_eq_true rfl) ⟨by show cells + 0 ≤ 600000; omega, by show slots + 0 ≤ 7302250; omega⟩ dlaw_267 (fun x1 σ1 hx1 hp1 => ?_)
  have f : LQ σ1 σ := f_share hp1
  refine wpx_aload_n hC dlaw_270 rfl ?_
  refine wpx_aload_n hC dlaw_271 rfl ?_
  refine wpx_iload_n hC dlaw_272 rfl ?_
  refine wpx_iconst hC dlaw_273 ?_
  refine wpx_iadd hC dlaw_274 ?_
  refine wpx_sld hC hS hb hA hL (by omega) dlaw_275 ?_
  refine wpx_aload_n hC dlaw_276 rfl ?_
  refine wpx_iload_n hC dlaw_277 rfl ?_
  refine wpx_iconst hC dlaw_278 ?_
  refine wpx_iadd hC dlaw_279 ?_
  refine wpx_sld hC hS hb hA hL (by omega) dlaw_280 ?_
  refine wpx_callVi (As := [_, _]) hC (c_X9_share hG σ1 (F_ro h f) (F_hd h f) sv_iR sv_iR) gL_law_X9_share rfl ⟨rfl, rfl⟩ ⟨by decide, by decide⟩ hyVX9_share rfl (by decide) rfl rfl (Nat.le_of_ble_eq_true rfl) ⟨by show cells + 0 ≤ 600000; omega, by show slots + 0 ≤ 7302250; omega⟩ dlaw_281 (fun y1 σ2 hy1 hp2 => ?_)
  obtain ⟨exy, hI⟩ := s_share h hp1 hp2
  refine wpx_icmp_eq (tgt := 1130) hC dlaw_284 (by decide) hx1 hy1 (fun _ => ?_) (fun c_1 => absurd exy c_1)
  refine wpx_more (cells2 := cells + 16) (slots2 := slots + 3004) (by omega) (by omega) ?_
  exact kk σ2 hI

set_option maxHeartbeats 4000000 in
set_option maxRecDepth 100000 in
theorem law_group {p : Program} {l : Launch} {e : Env} {s : State} {m : MethodId} {below : List Frame} {meth : Method} {c : Code} {A : Nat → Prop} {Q : State → Prop} {G : Gy} {Z : Ky} {cB : ClassId} {b L : Nat} {xs : Nat → Int32} {σ : St} {i : Int} {cells slots : Nat} (hG : Inj G) (hC : Cx p s m #[.ref b] meth c A s.heap 4 G code RL wsL_law) (hX : XKK G Z cB A s) (hS : va_X b L xs s s.heap) (hb : b < s.heap.size) (hA : ¬ A b) (hL : L ≤ 2560) (hi : 0 ≤ i ∧ i + 5 ≤ L) (hr : cells + 16 ≤ 600000 ∧ slots + 3004 ≤ 7302250) (h : INV σ) (kk : ∀ σ2, INV σ2 → wpx p l e room_1 s m #[.ref b] below meth c A s.heap 4 Q G [] (cells + 16) (slots + 3004) σ2 1130 [(0, .ref b), (1, .ref (G.2.2 82)), (2, .ref (G.2.2 0)), (3, .int (zI i))] []) : wpx p l e room_1 s m #[.ref b] below meth c A s.heap 4 Q G [] cells slots σ 289 [(0, .ref b), (1, .ref (G.2.2 82)), (2, .ref (G.2.2 0)), (3, .int (zI i))] [] := by
  refine wpx_aload_n hC dlaw_289 rfl ?_
  refine wpx_aload_n hC dlaw_290 rfl ?_
  refine wpx_iload_n hC dlaw_291 rfl ?_
  refine wpx_iconst hC dlaw_292 ?_
  refine wpx_iadd hC dlaw_293 ?_
  refine wpx_sld hC hS hb hA hL (by omega) dlaw_294 ?_
  refine wpx_aload_n hC dlaw_295 rfl ?_
  refine wpx_iload_n hC dlaw_296 rfl ?_
  refine wpx_iconst hC dlaw_297 ?_
  refine wpx_iadd hC dlaw_298 ?_
  refine wpx_sld hC hS hb hA hL (by omega) dlaw_299 ?_
  refine wpx_callVi (As := [_, _]) hC (c_X8_group hG σ (I_xo h) sv_iR sv_iR) gL_law_X8_group rfl ⟨rfl, rfl⟩ ⟨by decide, by decide⟩ hyVX8_group rfl (by decide) rfl rfl (Nat.le_of_ble_eq_true rfl) ⟨by show cells + 0 ≤ 600000; omega, by show slots + 0 ≤ 7302250; omega⟩ dlaw_300 (fun x1 σ1 hx1 hp1 => ?_)
  have f : LQ σ1 σ := by
    rw [hp1.2]
    exact LQ_r
  refine wpx_aload_n hC dlaw_303 rfl ?_
  refine wpx_aload_n hC dlaw_304 rfl ?_
  refine wpx_iload_n hC dlaw_305 rfl ?_
  refine wpx_iconst hC dlaw_306 ?_
  refine wpx_iadd hC dlaw_307 ?_
  refine wpx_sld hC hS hb hA hL (by omega) dlaw_308 ?_
  refine wpx_aload_n hC dlaw_309 rfl ?_
  refine wpx_iload_n hC dlaw_310 rfl ?_
  refine wpx_iconst hC dlaw_311 ?_
  refine wpx_iadd hC dlaw_312 ?_
  refine wpx_sld hC hS hb hA hL (by omega) dlaw_313 ?_
  refine wpx_callVi (As := [_, _]) hC (c_X9_group hG σ1 (F_ro h f) sv_iR sv_iR) gL_law_X9_group rfl ⟨rfl, rfl⟩ ⟨by decide, by decide⟩ hyVX9_group rfl (by decide) rfl rfl (Nat.le_of_ble_eq_true rfl) ⟨by show cells + 0 ≤ 600000; omega, by show slots + 0 ≤ 7302250; omega⟩ dlaw_314 (fun y1 σ2 hy1 hp2 => ?_)
  obtain ⟨exy, hI⟩ := s_group h hp1 hp2
  refine wpx_icmp_eq (tgt := 1130) hC dlaw_317 (by decide) hx1 hy1 (fun _ => ?_) (fun c_1 => absurd exy c_1)
  refine wpx_more (cells2 := cells + 16) (slots2 := slots + 3004) (by omega) (by omega) ?_
  exact kk σ2 hI

set_option maxHeartbeats 4000000 in
set_option maxRecDepth 100000 in
theorem law_feed {p : Program} {l : Launch} {e : Env} {s : State} {m : MethodId} {below : List Frame} {meth : Method} {c : Code} {A : Nat → Prop} {Q : State → Prop} {G : Gy} {Z : Ky} {cB : ClassId} {b L : Nat} {xs : Nat → Int32} {σ : St} {i : Int} {cells slots : Nat} (hG : Inj G) (hC : Cx p s m #[.ref b] meth c A s.heap 4 G code RL wsL_law) (hX : XKK G Z cB A s) (hS : va_X b L xs s s.heap) (hb : b < s.heap.size) (hA : ¬ A b) (hL : L ≤ 2560) (hi : 0 ≤ i ∧ i + 5 ≤ L) (hr : cells + 16 ≤ 600000 ∧ slots + 3004 ≤ 7302250) (h : INV σ) (kk : ∀ σ2, INV σ2 → wpx p l e room_1 s m #[.ref b] below meth c A s.heap 4 Q G [] (cells + 16) (slots + 3004) σ2 1130 [(0, .ref b), (1, .ref (G.2.2 82)), (2, .ref (G.2.2 0)), (3, .int (zI i))] []) : wpx p l e room_1 s m #[.ref b] below meth c A s.heap 4 Q G [] cells slots σ 322 [(0, .ref b), (1, .ref (G.2.2 82)), (2, .ref (G.2.2 0)), (3, .int (zI i))] [] := by
  refine wpx_aload_n hC dlaw_322 rfl ?_
  refine wpx_aload_n hC dlaw_323 rfl ?_
  refine wpx_iload_n hC dlaw_324 rfl ?_
  refine wpx_iconst hC dlaw_325 ?_
  refine wpx_iadd hC dlaw_326 ?_
  refine wpx_sld hC hS hb hA hL (by omega) dlaw_327 ?_
  refine wpx_callVi (As := [_]) hC (c_X8_feed hG σ sv_iR (I_hzx h)) gL_law_X8_feed rfl ⟨rfl, rfl⟩ ⟨by decide, by decide⟩ hyVX8_feed rfl (by decide) rfl rfl (Nat.le_of_ble_eq_true rfl) ⟨by show cells + 0 ≤ 600000; omega, by show slots + 0 ≤ 7302250; omega⟩ dlaw_328 (fun x1 σ1 hx1 hp1 => ?_)
  have f : LQ σ1 σ := f_feed hp1
  refine wpx_aload_n hC dlaw_331 rfl ?_
  refine wpx_aload_n hC dlaw_332 rfl ?_
  refine wpx_iload_n hC dlaw_333 rfl ?_
  refine wpx_iconst hC dlaw_334 ?_
  refine wpx_iadd hC dlaw_335 ?_
  refine wpx_sld hC hS hb hA hL (by omega) dlaw_336 ?_
  refine wpx_callVi (As := [_]) hC (c_X9_feed hG σ1 sv_iR (F_hz h f)) gL_law_X9_feed rfl ⟨rfl, rfl⟩ ⟨by decide, by decide⟩ hyVX9_feed rfl (by decide) rfl rfl (Nat.le_of_ble_eq_true rfl) ⟨by show cells + 0 ≤ 600000; omega, by show slots + 0 ≤ 7302250; omega⟩ dlaw_337 (fun y1 σ2 hy1 hp2 => ?_)
  obtain ⟨exy, hI⟩ := s_feed h hp1 hp2
  refine wpx_icmp_eq (tgt := 1130) hC dlaw_340 (by decide) hx1 hy1 (fun _ => ?_) (fun c_1 => absurd exy c_1)
  refine wpx_more (cells2 := cells + 16) (slots2 := slots + 3004) (by omega) (by omega) ?_
  exact kk σ2 hI

set_option maxHeartbeats 4000000 in
set_option maxRecDepth 100000 in
theorem law_orders {p : Program} {l : Launch} {e : Env} {s : State} {m : MethodId} {below : List Frame} {meth : Method} {c : Code} {A : Nat → Prop} {Q : State → Prop} {G : Gy} {Z : Ky} {cB : ClassId} {b L : Nat} {xs : Nat → Int32} {σ : St} {i : Int} {cells slots : Nat} (hG : Inj G) (hC : Cx p s m #[.ref b] meth c A s.heap 4 G code RL wsL_law) (hX : XKK G Z cB A s) (hS : va_X b L xs s s.heap) (hb : b < s.heap.size) (hA : ¬ A b) (hL : L ≤ 2560) (hi : 0 ≤ i ∧ i + 5 ≤ L) (hr : cells + 16 ≤ 600000 ∧ slots + 3004 ≤ 7302250) (h : INV σ) (kk : ∀ σ2, INV σ2 → wpx p l e room_1 s m #[.ref b] below meth c A s.heap 4 Q G [] (cells + 16) (slots + 3004) σ2 1130 [(0, .ref b), (1, .ref (G.2.2 82)), (2, .ref (G.2.2 0)), (3, .int (zI i))] []) : wpx p l e room_1 s m #[.ref b] below meth c A s.heap 4 Q G [] cells slots σ 345 [(0, .ref b), (1, .ref (G.2.2 82)), (2, .ref (G.2.2 0)), (3, .int (zI i))] [] := by
  refine wpx_aload_n hC dlaw_345 rfl ?_
  refine wpx_callVi (As := []) hC (c_X8_orders hG σ (I_xo h).1 (I_hzx h) h.2.1.2.2.2) gL_law_X8_orders rfl ⟨rfl, rfl⟩ ⟨by decide, by decide⟩ hyVX8_orders rfl (by decide) rfl rfl (Nat.le_of_ble_eq_true rfl) ⟨by show cells + 0 ≤ 600000; omega, by show slots + 0 ≤ 7302250; omega⟩ dlaw_346 (fun x1 σ1 hx1 hp1 => ?_)
  have f : LQ σ1 σ := f_orders hp1
  refine wpx_aload_n hC dlaw_349 rfl ?_
  refine wpx_callVi (As := []) hC (c_X9_orders' hG σ1 (F_hn h f) (F_hz h f) (F_ht h f)) gL_law_X9_orders rfl ⟨rfl, rfl⟩ ⟨by decide, by decide⟩ hyVX9_orders rfl (by decide) rfl rfl (Nat.le_of_ble_eq_true rfl) ⟨by show cells + 0 ≤ 600000; omega, by show slots + 0 ≤ 7302250; omega⟩ dlaw_350 (fun y1 σ2 hy1 hp2 => ?_)
  obtain ⟨exy, hI⟩ := s_orders h hp1 hp2
  refine wpx_icmp_eq (tgt := 1130) hC dlaw_353 (by decide) hx1 hy1 (fun _ => ?_) (fun c_1 => absurd exy c_1)
  refine wpx_more (cells2 := cells + 16) (slots2 := slots + 3004) (by omega) (by omega) ?_
  exact kk σ2 hI

set_option maxHeartbeats 4000000 in
set_option maxRecDepth 100000 in
theorem law_of {p : Program} {l : Launch} {e : Env} {s : State} {m : MethodId} {below : List Frame} {meth : Method} {c : Code} {A : Nat → Prop} {Q : State → Prop} {G : Gy} {Z : Ky} {cB : ClassId} {b L : Nat} {xs : Nat → Int32} {σ : St} {i : Int} {cells slots : Nat} (hG : Inj G) (hC : Cx p s m #[.ref b] meth c A s.heap 4 G code RL wsL_law) (hX : XKK G Z cB A s) (hS : va_X b L xs s s.heap) (hb : b < s.heap.size) (hA : ¬ A b) (hL : L ≤ 2560) (hi : 0 ≤ i ∧ i + 5 ≤ L) (hr : cells + 16 ≤ 600000 ∧ slots + 3004 ≤ 7302250) (h : INV σ) (kk : ∀ σ2, INV σ2 → wpx p l e room_1 s m #[.ref b] below meth c A s.heap 4 Q G [] (cells + 16) (slots + 3004) σ2 1130 [(0, .ref b), (1, .ref (G.2.2 82)), (2, .ref (G.2.2 0)), (3, .int (zI i))] []) : wpx p l e room_1 s m #[.ref b] below meth c A s.heap 4 Q G [] cells slots σ 358 [(0, .ref b), (1, .ref (G.2.2 82)), (2, .ref (G.2.2 0)), (3, .int (zI i))] [] := by
  refine wpx_aload_n hC dlaw_358 rfl ?_
  refine wpx_aload_n hC dlaw_359 rfl ?_
  refine wpx_iload_n hC dlaw_360 rfl ?_
  refine wpx_iconst hC dlaw_361 ?_
  refine wpx_iadd hC dlaw_362 ?_
  refine wpx_sld hC hS hb hA hL (by omega) dlaw_363 ?_
  refine wpx_aload_n hC dlaw_364 rfl ?_
  refine wpx_iload_n hC dlaw_365 rfl ?_
  refine wpx_iconst hC dlaw_366 ?_
  refine wpx_iadd hC dlaw_367 ?_
  refine wpx_sld hC hS hb hA hL (by omega) dlaw_368 ?_
  refine wpx_callVi (As := [_, _]) hC (c_X8_of hG σ (I_xo h) (I_kok h) sv_iR sv_iR) gL_law_X8_of rfl ⟨rfl, rfl⟩ ⟨by decide, by decide⟩ hyVX8_of rfl (by decide) rfl rfl (Nat.le_of_ble_eq_true rfl) ⟨by show cells + 0 ≤ 600000; omega, by show slots + 0 ≤ 7302250; omega⟩ dlaw_369 (fun x1 σ1 hx1 hp1 => ?_)
  have f : LQ σ1 σ := f_of hp1
  refine wpx_aload_n hC dlaw_372 rfl ?_
  refine wpx_aload_n hC dlaw_373 rfl ?_
  refine wpx_iload_n hC dlaw_374 rfl ?_
  refine wpx_iconst hC dlaw_375 ?_
  refine wpx_iadd hC dlaw_376 ?_
  refine wpx_sld hC hS hb hA hL (by omega) dlaw_377 ?_
  refine wpx_aload_n hC dlaw_378 rfl ?_
  refine wpx_iload_n hC dlaw_379 rfl ?_
  refine wpx_iconst hC dlaw_380 ?_
  refine wpx_iadd hC dlaw_381 ?_
  refine wpx_sld hC hS hb hA hL (by omega) dlaw_382 ?_
  refine wpx_callVi (As := [_, _]) hC (c_X9_of hG σ1 (F_ro h f) sv_iR sv_iR) gL_law_X9_of rfl ⟨rfl, rfl⟩ ⟨by decide, by decide⟩ hyVX9_of rfl (by decide) rfl rfl (Nat.le_of_ble_eq_true rfl) ⟨by show cells + 0 ≤ 600000; omega, by show slots + 0 ≤ 7302250; omega⟩ dlaw_383 (fun y1 σ2 hy1 hp2 => ?_)
  obtain ⟨exy, hI⟩ := s_of h hp1 hp2
  refine wpx_icmp_eq (tgt := 1130) hC dlaw_386 (by decide) hx1 hy1 (fun _ => ?_) (fun c_1 => absurd exy c_1)
  refine wpx_more (cells2 := cells + 16) (slots2 := slots + 3004) (by omega) (by omega) ?_
  exact kk σ2 hI

set_option maxHeartbeats 4000000 in
set_option maxRecDepth 100000 in
theorem law_promise {p : Program} {l : Launch} {e : Env} {s : State} {m : MethodId} {below : List Frame} {meth : Method} {c : Code} {A : Nat → Prop} {Q : State → Prop} {G : Gy} {Z : Ky} {cB : ClassId} {b L : Nat} {xs : Nat → Int32} {σ : St} {i : Int} {cells slots : Nat} (hG : Inj G) (hC : Cx p s m #[.ref b] meth c A s.heap 4 G code RL wsL_law) (hX : XKK G Z cB A s) (hS : va_X b L xs s s.heap) (hb : b < s.heap.size) (hA : ¬ A b) (hL : L ≤ 2560) (hi : 0 ≤ i ∧ i + 5 ≤ L) (hr : cells + 16 ≤ 600000 ∧ slots + 3004 ≤ 7302250) (h : INV σ) (kk : ∀ σ2, INV σ2 → wpx p l e room_1 s m #[.ref b] below meth c A s.heap 4 Q G [] (cells + 16) (slots + 3004) σ2 1130 [(0, .ref b), (1, .ref (G.2.2 82)), (2, .ref (G.2.2 0)), (3, .int (zI i))] []) : wpx p l e room_1 s m #[.ref b] below meth c A s.heap 4 Q G [] cells slots σ 391 [(0, .ref b), (1, .ref (G.2.2 82)), (2, .ref (G.2.2 0)), (3, .int (zI i))] [] := by
  refine wpx_aload_n hC dlaw_391 rfl ?_
  refine wpx_aload_n hC dlaw_392 rfl ?_
  refine wpx_iload_n hC dlaw_393 rfl ?_
  refine wpx_iconst hC dlaw_394 ?_
  refine wpx_iadd hC dlaw_395 ?_
  refine wpx_sld hC hS hb hA hL (by omega) dlaw_396 ?_
  refine wpx_callVi (As := [_]) hC (c_X8_promise hG σ (I_xo h) (I_xl h) sv_iR) gL_law_X8_promise rfl ⟨rfl, rfl⟩ ⟨by decide, by decide⟩ hyVX8_promise rfl (by decide) rfl rfl (Nat.le_of_ble_eq_true rfl) ⟨by show cells + 0 ≤ 600000; omega, by show slots + 0 ≤ 7302250; omega⟩ dlaw_397 (fun x1 σ1 hx1 hp1 => ?_)
  have f : LQ σ1 σ := f_promise hp1
  refine wpx_aload_n hC dlaw_400 rfl ?_
  refine wpx_aload_n hC dlaw_401 rfl ?_
  refine wpx_iload_n hC dlaw_402 rfl ?_
  refine wpx_iconst hC dlaw_403 ?_
  refine wpx_iadd hC dlaw_404 ?_
  refine wpx_sld hC hS hb hA hL (by omega) dlaw_405 ?_
  refine wpx_callVi (As := [_]) hC (c_X9_promise hG σ1 (F_ro h f) (F_hd h f) sv_iR) gL_law_X9_promise rfl ⟨rfl, rfl⟩ ⟨by decide, by decide⟩ hyVX9_promise rfl (by decide) rfl rfl (Nat.le_of_ble_eq_true rfl) ⟨by show cells + 0 ≤ 600000; omega, by show slots + 0 ≤ 7302250; omega⟩ dlaw_406 (fun y1 σ2 hy1 hp2 => ?_)
  obtain ⟨exy, hI⟩ := s_promise h hp1 hp2
  refine wpx_icmp_eq (tgt := 1130) hC dlaw_409 (by decide) hx1 hy1 (fun _ => ?_) (fun c_1 => absurd exy c_1)
  refine wpx_more (cells2 := cells + 16) (slots2 := slots + 3004) (by omega) (by omega) ?_
  exact kk σ2 hI

set_option maxHeartbeats 4000000 in
set_option maxRecDepth 100000 in
theorem law_promiseAll {p : Program} {l : Launch} {e : Env} {s : State} {m : MethodId} {below : List Frame} {meth : Method} {c : Code} {A : Nat → Prop} {Q : State → Prop} {G : Gy} {Z : Ky} {cB : ClassId} {b L : Nat} {xs : Nat → Int32} {σ : St} {i : Int} {cells slots : Nat} (hG : Inj G) (hC : Cx p s m #[.ref b] meth c A s.heap 4 G code RL wsL_law) (hX : XKK G Z cB A s) (hS : va_X b L xs s s.heap) (hb : b < s.heap.size) (hA : ¬ A b) (hL : L ≤ 2560) (hi : 0 ≤ i ∧ i + 5 ≤ L) (hr : cells + 16 ≤ 600000 ∧ slots + 3004 ≤ 7302250) (h : INV σ) (kk : ∀ σ2, INV σ2 → wpx p l e room_1 s m #[.ref b] below meth c A s.heap 4 Q G [] (cells + 16) (slots + 3004) σ2 1130 [(0, .ref b), (1, .ref (G.2.2 82)), (2, .ref (G.2.2 0)), (3, .int (zI i))] []) : wpx p l e room_1 s m #[.ref b] below meth c A s.heap 4 Q G [] cells slots σ 414 [(0, .ref b), (1, .ref (G.2.2 82)), (2, .ref (G.2.2 0)), (3, .int (zI i))] [] := by
  refine wpx_aload_n hC dlaw_414 rfl ?_
  refine wpx_callVi (As := []) hC (c_X8_promiseAll hG σ (I_xo h) (I_xl h)) gL_law_X8_promiseAll rfl ⟨rfl, rfl⟩ ⟨by decide, by decide⟩ hyVX8_promiseAll rfl (by decide) rfl rfl (Nat.le_of_ble_eq_true rfl) ⟨by show cells + 0 ≤ 600000; omega, by show slots + 0 ≤ 7302250; omega⟩ dlaw_415 (fun x1 σ1 hx1 hp1 => ?_)
  have f : LQ σ1 σ := f_promiseAll hp1
  refine wpx_aload_n hC dlaw_418 rfl ?_
  refine wpx_callVi (As := []) hC (c_X9_promiseAll hG σ1 (F_ro h f) (F_hd h f)) gL_law_X9_promiseAll rfl ⟨rfl, rfl⟩ ⟨by decide, by decide⟩ hyVX9_promiseAll rfl (by decide) rfl rfl (Nat.le_of_ble_eq_true rfl) ⟨by show cells + 0 ≤ 600000; omega, by show slots + 0 ≤ 7302250; omega⟩ dlaw_419 (fun y1 σ2 hy1 hp2 => ?_)
  obtain ⟨exy, hI⟩ := s_promiseAll h hp1 hp2
  refine wpx_icmp_eq (tgt := 1130) hC dlaw_422 (by decide) hx1 hy1 (fun _ => ?_) (fun c_1 => absurd exy c_1)
  refine wpx_more (cells2 := cells + 16) (slots2 := slots + 3004) (by omega) (by omega) ?_
  exact kk σ2 hI

set_option maxHeartbeats 4000000 in
set_option maxRecDepth 100000 in
theorem law_giveUp {p : Program} {l : Launch} {e : Env} {s : State} {m : MethodId} {below : List Frame} {meth : Method} {c : Code} {A : Nat → Prop} {Q : State → Prop} {G : Gy} {Z : Ky} {cB : ClassId} {b L : Nat} {xs : Nat → Int32} {σ : St} {i : Int} {cells slots : Nat} (hG : Inj G) (hC : Cx p s m #[.ref b] meth c A s.heap 4 G code RL wsL_law) (hX : XKK G Z cB A s) (hS : va_X b L xs s s.heap) (hb : b < s.heap.size) (hA : ¬ A b) (hL : L ≤ 2560) (hi : 0 ≤ i ∧ i + 5 ≤ L) (hr : cells + 16 ≤ 600000 ∧ slots + 3004 ≤ 7302250) (h : INV σ) (kk : ∀ σ2, INV σ2 → wpx p l e room_1 s m #[.ref b] below meth c A s.heap 4 Q G [] (cells + 16) (slots + 3004) σ2 1130 [(0, .ref b), (1, .ref (G.2.2 82)), (2, .ref (G.2.2 0)), (3, .int (zI i))] []) : wpx p l e room_1 s m #[.ref b] below meth c A s.heap 4 Q G [] cells slots σ 427 [(0, .ref b), (1, .ref (G.2.2 82)), (2, .ref (G.2.2 0)), (3, .int (zI i))] [] := by
  refine wpx_aload_n hC dlaw_427 rfl ?_
  refine wpx_aload_n hC dlaw_428 rfl ?_
  refine wpx_iload_n hC dlaw_429 rfl ?_
  refine wpx_iconst hC dlaw_430 ?_
  refine wpx_iadd hC dlaw_431 ?_
  refine wpx_sld hC hS hb hA hL (by omega) dlaw_432 ?_
  refine wpx_callVi (As := [_]) hC (c_X8_giveUp hG σ (I_xo h) (I_xl h) sv_iR) gL_law_X8_giveUp rfl ⟨rfl, rfl⟩ ⟨by decide, by decide⟩ hyVX8_giveUp rfl (by decide) rfl rfl (Nat.le_of_ble_eq_true rfl) ⟨by show cells + 0 ≤ 600000; omega, by show slots + 0 ≤ 7302250; omega⟩ dlaw_433 (fun x1 σ1 hx1 hp1 => ?_)
  have f : LQ σ1 σ := f_giveUp hp1
  refine wpx_aload_n hC dlaw_436 rfl ?_
  refine wpx_aload_n hC dlaw_437 rfl ?_
  refine wpx_iload_n hC dlaw_438 rfl ?_
  refine wpx_iconst hC dlaw_439 ?_
  refine wpx_iadd hC dlaw_440 ?_
  refine wpx_sld hC hS hb hA hL (by omega) dlaw_441 ?_
  refine wpx_callVi (As := [_]) hC (c_X9_giveUp hG σ1 (F_ro h f) (F_hd h f) sv_iR) gL_law_X9_giveUp rfl ⟨rfl, rfl⟩ ⟨by decide, by decide⟩ hyVX9_giveUp rfl (by decide) rfl rfl (Nat.le_of_ble_eq_true rfl) ⟨by show cells + 0 ≤ 600000; omega, by show slots + 0 ≤ 7302250; omega⟩ dlaw_442 (fun y1 σ2 hy1 hp2 => ?_)
  obtain ⟨exy, hI⟩ := s_giveUp h hp1 hp2
  refine wpx_icmp_eq (tgt := 1130) hC dlaw_445 (by decide) hx1 hy1 (fun _ => ?_) (fun c_1 => absurd exy c_1)
  refine wpx_more (cells2 := cells + 16) (slots2 := slots + 3004) (by omega) (by omega) ?_
  exact kk σ2 hI

set_option maxHeartbeats 4000000 in
set_option maxRecDepth 100000 in
theorem law_gone {p : Program} {l : Launch} {e : Env} {s : State} {m : MethodId} {below : List Frame} {meth : Method} {c : Code} {A : Nat → Prop} {Q : State → Prop} {G : Gy} {Z : Ky} {cB : ClassId} {b L : Nat} {xs : Nat → Int32} {σ : St} {i : Int} {cells slots : Nat} (hG : Inj G) (hC : Cx p s m #[.ref b] meth c A s.heap 4 G code RL wsL_law) (hX : XKK G Z cB A s) (hS : va_X b L xs s s.heap) (hb : b < s.heap.size) (hA : ¬ A b) (hL : L ≤ 2560) (hi : 0 ≤ i ∧ i + 5 ≤ L) (hr : cells + 16 ≤ 600000 ∧ slots + 3004 ≤ 7302250) (h : INV σ) (kk : ∀ σ2, INV σ2 → wpx p l e room_1 s m #[.ref b] below meth c A s.heap 4 Q G [] (cells + 16) (slots + 3004) σ2 1130 [(0, .ref b), (1, .ref (G.2.2 82)), (2, .ref (G.2.2 0)), (3, .int (zI i))] []) : wpx p l e room_1 s m #[.ref b] below meth c A s.heap 4 Q G [] cells slots σ 450 [(0, .ref b), (1, .ref (G.2.2 82)), (2, .ref (G.2.2 0)), (3, .int (zI i))] [] := by
  refine wpx_aload_n hC dlaw_450 rfl ?_
  refine wpx_aload_n hC dlaw_451 rfl ?_
  refine wpx_iload_n hC dlaw_452 rfl ?_
  refine wpx_iconst hC dlaw_453 ?_
  refine wpx_iadd hC dlaw_454 ?_
  refine wpx_sld hC hS hb hA hL (by omega) dlaw_455 ?_
  refine wpx_callVi (As := [_]) hC (c_X8_gone hG σ (I_xo h) (I_xl h) sv_iR) gL_law_X8_gone rfl ⟨rfl, rfl⟩ ⟨by decide, by decide⟩ hyVX8_gone rfl (by decide) rfl rfl (Nat.le_of_ble_eq_true rfl) ⟨by show cells + 0 ≤ 600000; omega, by show slots + 0 ≤ 7302250; omega⟩ dlaw_456 (fun x1 σ1 hx1 hp1 => ?_)
  have f : LQ σ1 σ := f_gone hp1
  refine wpx_aload_n hC dlaw_459 rfl ?_
  refine wpx_aload_n hC dlaw_460 rfl ?_
  refine wpx_iload_n hC dlaw_461 rfl ?_
  refine wpx_iconst hC dlaw_462 ?_
  refine wpx_iadd hC dlaw_463 ?_
  refine wpx_sld hC hS hb hA hL (by omega) dlaw_464 ?_
  refine wpx_callVi (As := [_]) hC (c_X9_gone hG σ1 (F_ro h f) (F_hd h f) sv_iR) gL_law_X9_gone rfl ⟨rfl, rfl⟩ ⟨by decide, by decide⟩ hyVX9_gone rfl (by decide) rfl rfl (Nat.le_of_ble_eq_true rfl) ⟨by show cells + 0 ≤ 600000; omega, by show slots + 0 ≤ 7302250; omega⟩ dlaw_465 (fun y1 σ2 hy1 hp2 => ?_)
  obtain ⟨exy, hI⟩ := s_gone h hp1 hp2
  refine wpx_icmp_eq (tgt := 1130) hC dlaw_468 (by decide) hx1 hy1 (fun _ => ?_) (fun c_1 => absurd exy c_1)
  refine wpx_more (cells2 := cells + 16) (slots2 := slots + 3004) (by omega) (by omega) ?_
  exact kk σ2 hI

set_option maxHeartbeats 4000000 in
set_option maxRecDepth 100000 in
theorem law_move {p : Program} {l : Launch} {e : Env} {s : State} {m : MethodId} {below : List Frame} {meth : Method} {c : Code} {A : Nat → Prop} {Q : State → Prop} {G : Gy} {Z : Ky} {cB : ClassId} {b L : Nat} {xs : Nat → Int32} {σ : St} {i : Int} {cells slots : Nat} (hG : Inj G) (hC : Cx p s m #[.ref b] meth c A s.heap 4 G code RL wsL_law) (hX : XKK G Z cB A s) (hS : va_X b L xs s s.heap) (hb : b < s.heap.size) (hA : ¬ A b) (hL : L ≤ 2560) (hi : 0 ≤ i ∧ i + 5 ≤ L) (hr : cells + 16 ≤ 600000 ∧ slots + 3004 ≤ 7302250) (h : INV σ) (kk : ∀ σ2, INV σ2 → wpx p l e room_1 s m #[.ref b] below meth c A s.heap 4 Q G [] (cells + 16) (slots + 3004) σ2 1130 [(0, .ref b), (1, .ref (G.2.2 82)), (2, .ref (G.2.2 0)), (3, .int (zI i))] []) : wpx p l e room_1 s m #[.ref b] below meth c A s.heap 4 Q G [] cells slots σ 473 [(0, .ref b), (1, .ref (G.2.2 82)), (2, .ref (G.2.2 0)), (3, .int (zI i))] [] := by
  refine wpx_aload_n hC dlaw_473 rfl ?_
  refine wpx_aload_n hC dlaw_474 rfl ?_
  refine wpx_iload_n hC dlaw_475 rfl ?_
  refine wpx_iconst hC dlaw_476 ?_
  refine wpx_iadd hC dlaw_477 ?_
  refine wpx_sld hC hS hb hA hL (by omega) dlaw_478 ?_
  refine wpx_aload_n hC dlaw_479 rfl ?_
  refine wpx_iload_n hC dlaw_480 rfl ?_
  refine wpx_iconst hC dlaw_481 ?_
  refine wpx_iadd hC dlaw_482 ?_
  refine wpx_sld hC hS hb hA hL (by omega) dlaw_483 ?_
  refine wpx_callVi (As := [_, _]) hC (c_X8_move hG σ (I_xo h) (I_xl h) sv_iR sv_iR) gL_law_X8_move rfl ⟨rfl, rfl⟩ ⟨by decide, by decide⟩ hyVX8_move rfl (by decide) rfl rfl (Nat.le_of_ble_eq_true rfl) ⟨by show cells + 0 ≤ 600000; omega, by show slots + 0 ≤ 7302250; omega⟩ dlaw_484 (fun x1 σ1 hx1 hp1 => ?_)
  have f : LQ σ1 σ := f_move hp1
  refine wpx_aload_n hC dlaw_487 rfl ?_
  refine wpx_aload_n hC dlaw_488 rfl ?_
  refine wpx_iload_n hC dlaw_489 rfl ?_
  refine wpx_iconst hC dlaw_490 ?_
  refine wpx_iadd hC dlaw_491 ?_
  refine wpx_sld hC hS hb hA hL (by omega) dlaw_492 ?_
  refine wpx_aload_n hC dlaw_493 rfl ?_
  refine wpx_iload_n hC dlaw_494 rfl ?_
  refine wpx_iconst hC dlaw_495 ?_
  refine wpx_iadd hC dlaw_496 ?_
  refine wpx_sld hC hS hb hA hL (by omega) dlaw_497 ?_
  refine wpx_callVi (As := [_, _]) hC (c_X9_move hG σ1 (F_ro h f) (F_hd h f) sv_iR sv_iR) gL_law_X9_move rfl ⟨rfl, rfl⟩ ⟨by decide, by decide⟩ hyVX9_move rfl (by decide) rfl rfl (Nat.le_of_ble_eq_true rfl) ⟨by show cells + 0 ≤ 600000; omega, by show slots + 0 ≤ 7302250; omega⟩ dlaw_498 (fun y1 σ2 hy1 hp2 => ?_)
  obtain ⟨exy, hI⟩ := s_move h hp1 hp2
  refine wpx_icmp_eq (tgt := 1130) hC dlaw_501 (by decide) hx1 hy1 (fun _ => ?_) (fun c_1 => absurd exy c_1)
  refine wpx_more (cells2 := cells + 16) (slots2 := slots + 3004) (by omega) (by omega) ?_
  exact kk σ2 hI

set_option maxHeartbeats 4000000 in
set_option maxRecDepth 100000 in
theorem law_swap {p : Program} {l : Launch} {e : Env} {s : State} {m : MethodId} {below : List Frame} {meth : Method} {c : Code} {A : Nat → Prop} {Q : State → Prop} {G : Gy} {Z : Ky} {cB : ClassId} {b L : Nat} {xs : Nat → Int32} {σ : St} {i : Int} {cells slots : Nat} (hG : Inj G) (hC : Cx p s m #[.ref b] meth c A s.heap 4 G code RL wsL_law) (hX : XKK G Z cB A s) (hS : va_X b L xs s s.heap) (hb : b < s.heap.size) (hA : ¬ A b) (hL : L ≤ 2560) (hi : 0 ≤ i ∧ i + 5 ≤ L) (hr : cells + 16 ≤ 600000 ∧ slots + 3004 ≤ 7302250) (h : INV σ) (kk : ∀ σ2, INV σ2 → wpx p l e room_1 s m #[.ref b] below meth c A s.heap 4 Q G [] (cells + 16) (slots + 3004) σ2 1130 [(0, .ref b), (1, .ref (G.2.2 82)), (2, .ref (G.2.2 0)), (3, .int (zI i))] []) : wpx p l e room_1 s m #[.ref b] below meth c A s.heap 4 Q G [] cells slots σ 506 [(0, .ref b), (1, .ref (G.2.2 82)), (2, .ref (G.2.2 0)), (3, .int (zI i))] [] := by
  refine wpx_aload_n hC dlaw_506 rfl ?_
  refine wpx_aload_n hC dlaw_507 rfl ?_
  refine wpx_iload_n hC dlaw_508 rfl ?_
  refine wpx_iconst hC dlaw_509 ?_
  refine wpx_iadd hC dlaw_510 ?_
  refine wpx_sld hC hS hb hA hL (by omega) dlaw_511 ?_
  refine wpx_aload_n hC dlaw_512 rfl ?_
  refine wpx_iload_n hC dlaw_513 rfl ?_
  refine wpx_iconst hC dlaw_514 ?_
  refine wpx_iadd hC dlaw_515 ?_
  refine wpx_sld hC hS hb hA hL (by omega) dlaw_516 ?_
  refine wpx_callVi (As := [_, _]) hC (c_X8_swap hG σ (I_xo h) (I_xl h) sv_iR sv_iR) gL_law_X8_swap rfl ⟨rfl, rfl⟩ ⟨by decide, by decide⟩ hyVX8_swap rfl (by decide) rfl rfl (Nat.le_of_ble_eq_true rfl) ⟨by show cells + 0 ≤ 600000; omega, by show slots + 0 ≤ 7302250; omega⟩ dlaw_517 (fun x1 σ1 hx1 hp1 => ?_)
  have f : LQ σ1 σ := f_swap hp1
  refine wpx_aload_n hC dlaw_520 rfl ?_
  refine wpx_aload_n hC dlaw_521 rfl ?_
  refine wpx_iload_n hC dlaw_522 rfl ?_
  refine wpx_iconst hC dlaw_523 ?_
  refine wpx_iadd hC dlaw_524 ?_
  refine wpx_sld hC hS hb hA hL (by omega) dlaw_525 ?_
  refine wpx_aload_n hC dlaw_526 rfl ?_
  refine wpx_iload_n hC dlaw_527 rfl ?_
  refine wpx_iconst hC dlaw_528 ?_
  refine wpx_iadd hC dlaw_529 ?_
  refine wpx_sld hC hS hb hA hL (by omega) dlaw_530 ?_
  refine wpx_callVi (As := [_, _]) hC (c_X9_swap hG σ1 (F_ro h f) (F_hd h f) sv_iR sv_iR) gL_law_X9_swap rfl ⟨rfl, rfl⟩ ⟨by decide, by decide⟩ hyVX9_swap rfl (by decide) rfl rfl (Nat.le_of_ble_eq_true rfl) ⟨by show cells + 0 ≤ 600000; omega, by show slots + 0 ≤ 7302250; omega⟩ dlaw_531 (fun y1 σ2 hy1 hp2 => ?_)
  obtain ⟨exy, hI⟩ := s_swap h hp1 hp2
  refine wpx_icmp_eq (tgt := 1130) hC dlaw_534 (by decide) hx1 hy1 (fun _ => ?_) (fun c_1 => absurd exy c_1)
  refine wpx_more (cells2 := cells + 16) (slots2 := slots + 3004) (by omega) (by omega) ?_
  exact kk σ2 hI

set_option maxHeartbeats 4000000 in
set_option maxRecDepth 100000 in
theorem law_left {p : Program} {l : Launch} {e : Env} {s : State} {m : MethodId} {below : List Frame} {meth : Method} {c : Code} {A : Nat → Prop} {Q : State → Prop} {G : Gy} {Z : Ky} {cB : ClassId} {b L : Nat} {xs : Nat → Int32} {σ : St} {i : Int} {cells slots : Nat} (hG : Inj G) (hC : Cx p s m #[.ref b] meth c A s.heap 4 G code RL wsL_law) (hX : XKK G Z cB A s) (hS : va_X b L xs s s.heap) (hb : b < s.heap.size) (hA : ¬ A b) (hL : L ≤ 2560) (hi : 0 ≤ i ∧ i + 5 ≤ L) (hr : cells + 16 ≤ 600000 ∧ slots + 3004 ≤ 7302250) (h : INV σ) (kk : ∀ σ2, INV σ2 → wpx p l e room_1 s m #[.ref b] below meth c A s.heap 4 Q G [] (cells + 16) (slots + 3004) σ2 1130 [(0, .ref b), (1, .ref (G.2.2 82)), (2, .ref (G.2.2 0)), (3, .int (zI i))] []) : wpx p l e room_1 s m #[.ref b] below meth c A s.heap 4 Q G [] cells slots σ 539 [(0, .ref b), (1, .ref (G.2.2 82)), (2, .ref (G.2.2 0)), (3, .int (zI i))] [] := by
  refine wpx_aload_n hC dlaw_539 rfl ?_
  refine wpx_aload_n hC dlaw_540 rfl ?_
  refine wpx_iload_n hC dlaw_541 rfl ?_
  refine wpx_iconst hC dlaw_542 ?_
  refine wpx_iadd hC dlaw_543 ?_
  refine wpx_sld hC hS hb hA hL (by omega) dlaw_544 ?_
  refine wpx_callVi (As := [_]) hC (c_X8_left hG σ (I_xo h) sv_iR) gL_law_X8_left rfl ⟨rfl, rfl⟩ ⟨by decide, by decide⟩ hyVX8_left rfl (by decide) rfl rfl (Nat.le_of_ble_eq_true rfl) ⟨by show cells + 0 ≤ 600000; omega, by show slots + 0 ≤ 7302250; omega⟩ dlaw_545 (fun x1 σ1 hx1 hp1 => ?_)
  have f : LQ σ1 σ := by
    rw [hp1.2]
    exact LQ_r
  refine wpx_aload_n hC dlaw_548 rfl ?_
  refine wpx_aload_n hC dlaw_549 rfl ?_
  refine wpx_iload_n hC dlaw_550 rfl ?_
  refine wpx_iconst hC dlaw_551 ?_
  refine wpx_iadd hC dlaw_552 ?_
  refine wpx_sld hC hS hb hA hL (by omega) dlaw_553 ?_
  refine wpx_callVi (As := [_]) hC (c_X9_left hG σ1 (F_ro h f) sv_iR) gL_law_X9_left rfl ⟨rfl, rfl⟩ ⟨by decide, by decide⟩ hyVX9_left rfl (by decide) rfl rfl (Nat.le_of_ble_eq_true rfl) ⟨by show cells + 0 ≤ 600000; omega, by show slots + 0 ≤ 7302250; omega⟩ dlaw_554 (fun y1 σ2 hy1 hp2 => ?_)
  obtain ⟨exy, hI⟩ := s_left h hp1 hp2
  refine wpx_icmp_eq (tgt := 1130) hC dlaw_557 (by decide) hx1 hy1 (fun _ => ?_) (fun c_1 => absurd exy c_1)
  refine wpx_more (cells2 := cells + 16) (slots2 := slots + 3004) (by omega) (by omega) ?_
  exact kk σ2 hI

set_option maxHeartbeats 4000000 in
set_option maxRecDepth 100000 in
theorem law_hinders {p : Program} {l : Launch} {e : Env} {s : State} {m : MethodId} {below : List Frame} {meth : Method} {c : Code} {A : Nat → Prop} {Q : State → Prop} {G : Gy} {Z : Ky} {cB : ClassId} {b L : Nat} {xs : Nat → Int32} {σ : St} {i : Int} {cells slots : Nat} (hG : Inj G) (hC : Cx p s m #[.ref b] meth c A s.heap 4 G code RL wsL_law) (hX : XKK G Z cB A s) (hS : va_X b L xs s s.heap) (hb : b < s.heap.size) (hA : ¬ A b) (hL : L ≤ 2560) (hi : 0 ≤ i ∧ i + 5 ≤ L) (hr : cells + 16 ≤ 600000 ∧ slots + 3004 ≤ 7302250) (h : INV σ) (kk : ∀ σ2, INV σ2 → wpx p l e room_1 s m #[.ref b] below meth c A s.heap 4 Q G [] (cells + 16) (slots + 3004) σ2 1130 [(0, .ref b), (1, .ref (G.2.2 82)), (2, .ref (G.2.2 0)), (3, .int (zI i))] []) : wpx p l e room_1 s m #[.ref b] below meth c A s.heap 4 Q G [] cells slots σ 562 [(0, .ref b), (1, .ref (G.2.2 82)), (2, .ref (G.2.2 0)), (3, .int (zI i))] [] := by
  refine wpx_aload_n hC dlaw_562 rfl ?_
  refine wpx_aload_n hC dlaw_563 rfl ?_
  refine wpx_iload_n hC dlaw_564 rfl ?_
  refine wpx_iconst hC dlaw_565 ?_
  refine wpx_iadd hC dlaw_566 ?_
  refine wpx_sld hC hS hb hA hL (by omega) dlaw_567 ?_
  refine wpx_aload_n hC dlaw_568 rfl ?_
  refine wpx_iload_n hC dlaw_569 rfl ?_
  refine wpx_iconst hC dlaw_570 ?_
  refine wpx_iadd hC dlaw_571 ?_
  refine wpx_sld hC hS hb hA hL (by omega) dlaw_572 ?_
  refine wpx_callVi (As := [_, _]) hC (c_X8_hinders hG σ (I_xo h) sv_iR sv_iR) gL_law_X8_hinders rfl ⟨rfl, rfl⟩ ⟨by decide, by decide⟩ hyVX8_hinders rfl (by decide) rfl rfl (Nat.le_of_ble_eq_true rfl) ⟨by show cells + 0 ≤ 600000; omega, by show slots + 0 ≤ 7302250; omega⟩ dlaw_573 (fun x1 σ1 hx1 hp1 => ?_)
  have f : LQ σ1 σ := f_hinders hp1
  refine wpx_aload_n hC dlaw_576 rfl ?_
  refine wpx_aload_n hC dlaw_577 rfl ?_
  refine wpx_iload_n hC dlaw_578 rfl ?_
  refine wpx_iconst hC dlaw_579 ?_
  refine wpx_iadd hC dlaw_580 ?_
  refine wpx_sld hC hS hb hA hL (by omega) dlaw_581 ?_
  refine wpx_aload_n hC dlaw_582 rfl ?_
  refine wpx_iload_n hC dlaw_583 rfl ?_
  refine wpx_iconst hC dlaw_584 ?_
  refine wpx_iadd hC dlaw_585 ?_
  refine wpx_sld hC hS hb hA hL (by omega) dlaw_586 ?_
  refine wpx_callVi (As := [_, _]) hC (c_X9_hinders hG σ1 (F_ro h f) sv_iR sv_iR) gL_law_X9_hinders rfl ⟨rfl, rfl⟩ ⟨by decide, by decide⟩ hyVX9_hinders rfl (by decide) rfl rfl (Nat.le_of_ble_eq_true rfl) ⟨by show cells + 0 ≤ 600000; omega, by show slots + 0 ≤ 7302250; omega⟩ dlaw_587 (fun y1 σ2 hy1 hp2 => ?_)
  obtain ⟨exy, hI⟩ := s_hinders h hp1 hp2
  refine wpx_icmp_eq (tgt := 1130) hC dlaw_590 (by decide) hx1 hy1 (fun _ => ?_) (fun c_1 => absurd exy c_1)
  refine wpx_more (cells2 := cells + 16) (slots2 := slots + 3004) (by omega) (by omega) ?_
  exact kk σ2 hI

set_option maxHeartbeats 4000000 in
set_option maxRecDepth 100000 in
theorem law_could {p : Program} {l : Launch} {e : Env} {s : State} {m : MethodId} {below : List Frame} {meth : Method} {c : Code} {A : Nat → Prop} {Q : State → Prop} {G : Gy} {Z : Ky} {cB : ClassId} {b L : Nat} {xs : Nat → Int32} {σ : St} {i : Int} {cells slots : Nat} (hG : Inj G) (hC : Cx p s m #[.ref b] meth c A s.heap 4 G code RL wsL_law) (hX : XKK G Z cB A s) (hS : va_X b L xs s s.heap) (hb : b < s.heap.size) (hA : ¬ A b) (hL : L ≤ 2560) (hi : 0 ≤ i ∧ i + 5 ≤ L) (hr : cells + 16 ≤ 600000 ∧ slots + 3004 ≤ 7302250) (h : INV σ) (kk : ∀ σ2, INV σ2 → wpx p l e room_1 s m #[.ref b] below meth c A s.heap 4 Q G [] (cells + 16) (slots + 3004) σ2 1130 [(0, .ref b), (1, .ref (G.2.2 82)), (2, .ref (G.2.2 0)), (3, .int (zI i))] []) : wpx p l e room_1 s m #[.ref b] below meth c A s.heap 4 Q G [] cells slots σ 595 [(0, .ref b), (1, .ref (G.2.2 82)), (2, .ref (G.2.2 0)), (3, .int (zI i))] [] := by
  refine wpx_aload_n hC dlaw_595 rfl ?_
  refine wpx_aload_n hC dlaw_596 rfl ?_
  refine wpx_iload_n hC dlaw_597 rfl ?_
  refine wpx_iconst hC dlaw_598 ?_
  refine wpx_iadd hC dlaw_599 ?_
  refine wpx_sld hC hS hb hA hL (by omega) dlaw_600 ?_
  refine wpx_aload_n hC dlaw_601 rfl ?_
  refine wpx_iload_n hC dlaw_602 rfl ?_
  refine wpx_iconst hC dlaw_603 ?_
  refine wpx_iadd hC dlaw_604 ?_
  refine wpx_sld hC hS hb hA hL (by omega) dlaw_605 ?_
  refine wpx_callVi (As := [_, _]) hC (c_X8_could hG σ (I_xo h) sv_iR sv_iR) gL_law_X8_could rfl ⟨rfl, rfl⟩ ⟨by decide, by decide⟩ hyVX8_could rfl (by decide) rfl rfl (Nat.le_of_ble_eq_true rfl) ⟨by show cells + 0 ≤ 600000; omega, by show slots + 0 ≤ 7302250; omega⟩ dlaw_606 (fun x1 σ1 hx1 hp1 => ?_)
  have f : LQ σ1 σ := f_could hp1
  refine wpx_aload_n hC dlaw_609 rfl ?_
  refine wpx_aload_n hC dlaw_610 rfl ?_
  refine wpx_iload_n hC dlaw_611 rfl ?_
  refine wpx_iconst hC dlaw_612 ?_
  refine wpx_iadd hC dlaw_613 ?_
  refine wpx_sld hC hS hb hA hL (by omega) dlaw_614 ?_
  refine wpx_aload_n hC dlaw_615 rfl ?_
  refine wpx_iload_n hC dlaw_616 rfl ?_
  refine wpx_iconst hC dlaw_617 ?_
  refine wpx_iadd hC dlaw_618 ?_
  refine wpx_sld hC hS hb hA hL (by omega) dlaw_619 ?_
  refine wpx_callVi (As := [_, _]) hC (c_X9_could hG σ1 (F_ro h f) sv_iR sv_iR) gL_law_X9_could rfl ⟨rfl, rfl⟩ ⟨by decide, by decide⟩ hyVX9_could rfl (by decide) rfl rfl (Nat.le_of_ble_eq_true rfl) ⟨by show cells + 0 ≤ 600000; omega, by show slots + 0 ≤ 7302250; omega⟩ dlaw_620 (fun y1 σ2 hy1 hp2 => ?_)
  obtain ⟨exy, hI⟩ := s_could h hp1 hp2
  refine wpx_icmp_eq (tgt := 1130) hC dlaw_623 (by decide) hx1 hy1 (fun _ => ?_) (fun c_1 => absurd exy c_1)
  refine wpx_more (cells2 := cells + 16) (slots2 := slots + 3004) (by omega) (by omega) ?_
  exact kk σ2 hI

set_option maxHeartbeats 4000000 in
set_option maxRecDepth 100000 in
theorem law_spare {p : Program} {l : Launch} {e : Env} {s : State} {m : MethodId} {below : List Frame} {meth : Method} {c : Code} {A : Nat → Prop} {Q : State → Prop} {G : Gy} {Z : Ky} {cB : ClassId} {b L : Nat} {xs : Nat → Int32} {σ : St} {i : Int} {cells slots : Nat} (hG : Inj G) (hC : Cx p s m #[.ref b] meth c A s.heap 4 G code RL wsL_law) (hX : XKK G Z cB A s) (hS : va_X b L xs s s.heap) (hb : b < s.heap.size) (hA : ¬ A b) (hL : L ≤ 2560) (hi : 0 ≤ i ∧ i + 5 ≤ L) (hr : cells + 16 ≤ 600000 ∧ slots + 3004 ≤ 7302250) (h : INV σ) (kk : ∀ σ2, INV σ2 → wpx p l e room_1 s m #[.ref b] below meth c A s.heap 4 Q G [] (cells + 16) (slots + 3004) σ2 1130 [(0, .ref b), (1, .ref (G.2.2 82)), (2, .ref (G.2.2 0)), (3, .int (zI i))] []) : wpx p l e room_1 s m #[.ref b] below meth c A s.heap 4 Q G [] cells slots σ 628 [(0, .ref b), (1, .ref (G.2.2 82)), (2, .ref (G.2.2 0)), (3, .int (zI i))] [] := by
  refine wpx_aload_n hC dlaw_628 rfl ?_
  refine wpx_aload_n hC dlaw_629 rfl ?_
  refine wpx_iload_n hC dlaw_630 rfl ?_
  refine wpx_iconst hC dlaw_631 ?_
  refine wpx_iadd hC dlaw_632 ?_
  refine wpx_sld hC hS hb hA hL (by omega) dlaw_633 ?_
  refine wpx_aload_n hC dlaw_634 rfl ?_
  refine wpx_iload_n hC dlaw_635 rfl ?_
  refine wpx_iconst hC dlaw_636 ?_
  refine wpx_iadd hC dlaw_637 ?_
  refine wpx_sld hC hS hb hA hL (by omega) dlaw_638 ?_
  refine wpx_callVi (As := [_, _]) hC (c_X8_spare hG σ (I_xo h) sv_iR sv_iR) gL_law_X8_spare rfl ⟨rfl, rfl⟩ ⟨by decide, by decide⟩ hyVX8_spare rfl (by decide) rfl rfl (Nat.le_of_ble_eq_true rfl) ⟨by show cells + 0 ≤ 600000; omega, by show slots + 0 ≤ 7302250; omega⟩ dlaw_639 (fun x1 σ1 hx1 hp1 => ?_)
  have f : LQ σ1 σ := f_spare hp1
  refine wpx_aload_n hC dlaw_642 rfl ?_
  refine wpx_aload_n hC dlaw_643 rfl ?_
  refine wpx_iload_n hC dlaw_644 rfl ?_
  refine wpx_iconst hC dlaw_645 ?_
  refine wpx_iadd hC dlaw_646 ?_
  refine wpx_sld hC hS hb hA hL (by omega) dlaw_647 ?_
  refine wpx_aload_n hC dlaw_648 rfl ?_
  refine wpx_iload_n hC dlaw_649 rfl ?_
  refine wpx_iconst hC dlaw_650 ?_
  refine wpx_iadd hC dlaw_651 ?_
  refine wpx_sld hC hS hb hA hL (by omega) dlaw_652 ?_
  refine wpx_callVi (As := [_, _]) hC (c_X9_spare hG σ1 (F_ro h f) sv_iR sv_iR) gL_law_X9_spare rfl ⟨rfl, rfl⟩ ⟨by decide, by decide⟩ hyVX9_spare rfl (by decide) rfl rfl (Nat.le_of_ble_eq_true rfl) ⟨by show cells + 0 ≤ 600000; omega, by show slots + 0 ≤ 7302250; omega⟩ dlaw_653 (fun y1 σ2 hy1 hp2 => ?_)
  obtain ⟨exy, hI⟩ := s_spare h hp1 hp2
  refine wpx_icmp_eq (tgt := 1130) hC dlaw_656 (by decide) hx1 hy1 (fun _ => ?_) (fun c_1 => absurd exy c_1)
  refine wpx_more (cells2 := cells + 16) (slots2 := slots + 3004) (by omega) (by omega) ?_
  exact kk σ2 hI
