section LNC9
variable {p : Program} {l : Launch} {e : Env} {s : State} {m : MethodId} {args : Array Value} {below : List Frame} {meth : Method} {c : Code} {H : Heap} {locs : List Loc} {cells slots : Nat} {Q : State → Prop}
variable {D : va_G} {g : Nat → ClassId} {ls : Array Slot} {A : Nat → Prop} {b0 L i : Nat} {xs : Nat → Int32} {a b : Nat → Nat} {N : ln_N} {v : Nat}
set_option maxHeartbeats 4000000 in
set_option maxRecDepth 100000 in
theorem lw_post (X : ln_X p room_1 s m c cL_law 4 RL D g 34) (hA : ∀ q, s.heap.size ≤ q → A q) (hX : va_X b0 L xs s s.heap) (hbl : b0 < s.heap.size) (hbA : ¬ A b0) (hap : ln_ap (CW a g) (MW b g)) (hf : cells ≤ room_1.cells ∧ slots ≤ room_1.slots) (hL : L ≤ 2048) (hi : i + 4 ≤ L) (hv9 : v < 900000) (hJ : ln_J s D g A a b N v H locs) (hl : lv_has ls 4 [(0, .ref b0), (1, .ref (a 0)), (2, .ref (b 0)), (3, .int (nI i))])
    (kk : ∀ (N1 : ln_N) (v1 : Nat) (H1 : Heap) (locs1 : List Loc), v1 ≤ v + 1 → ln_J s D g A a b N1 v1 H1 locs1 → W p l e room_1 s m args below meth c H1 locs1 cells slots Q (F0 m 937 ls [])) : W p l e room_1 s m args below meth c H locs cells slots Q (F0 m 156 ls []) := by
  obtain ⟨σ, τ, hC, hM, hPC, hDC, hPM, hDM, hS⟩ := hJ
  have hW0 := hC.1
  refine lv_aload_n X.1 X.2.1 dL_law_156 rfl (lv_at hl 1 rfl) ?_
  refine ln_vU2 X (CW_ad a g) hap (τ2 := τ) hA (c_X9_post l D g a σ 33 N v hC hv9 (by decide)) hPC hDC hS hPM 0 rfl rfl mM_L_13 Y_X9_post rfl (Nat.le_refl 34) hl.1 rfl (Nat.le_of_ble_eq_true rfl) dL_law_157 hf (fun z σ H locs hz hPC hDC hS hPM => ?_)
  obtain ⟨M1, hC, hz⟩ := hz
  refine lv_aload_n X.1 X.2.1 dL_law_160 rfl (lv_at hl 2 rfl) ?_
  refine ln_vU2 X (MW_ad b g) hap.flip (τ2 := σ) hA (c_X10_post l D g b τ 33 N hM (by decide)) hPM hDM hS hPC 0 rfl rfl mM_L_17 Y_X10_post rfl (Nat.le_refl 34) hl.1 rfl (Nat.le_of_ble_eq_true rfl) dL_law_161 hf (fun w τ H locs hw hPM hDM hS hPC => ?_)
  obtain ⟨M2, hM, hw⟩ := hw
  obtain ⟨hzw, hMM⟩ := ln_oPo_one hz hw
  subst hMM
  refine lv_icmp_eq (tgt := 937) X.1 X.2.1 dL_law_164 (by decide) (fun _ => ?_) (fun h9 => absurd hzw h9)
  exact kk M1 (v + 1) H locs (Nat.le_refl _) ⟨σ, τ, hC, hM, hPC, hDC, hPM, hDM, hS⟩
set_option maxHeartbeats 4000000 in
set_option maxRecDepth 100000 in
theorem lw_road (X : ln_X p room_1 s m c cL_law 4 RL D g 34) (hA : ∀ q, s.heap.size ≤ q → A q) (hX : va_X b0 L xs s s.heap) (hbl : b0 < s.heap.size) (hbA : ¬ A b0) (hap : ln_ap (CW a g) (MW b g)) (hf : cells ≤ room_1.cells ∧ slots ≤ room_1.slots) (hL : L ≤ 2048) (hi : i + 4 ≤ L) (hv9 : v < 900000) (hJ : ln_J s D g A a b N v H locs) (hl : lv_has ls 4 [(0, .ref b0), (1, .ref (a 0)), (2, .ref (b 0)), (3, .int (nI i))])
    (kk : ∀ (N1 : ln_N) (v1 : Nat) (H1 : Heap) (locs1 : List Loc), v1 ≤ v + 1 → ln_J s D g A a b N1 v1 H1 locs1 → W p l e room_1 s m args below meth c H1 locs1 cells slots Q (F0 m 937 ls [])) : W p l e room_1 s m args below meth c H locs cells slots Q (F0 m 169 ls []) := by
  obtain ⟨σ, τ, hC, hM, hPC, hDC, hPM, hDM, hS⟩ := hJ
  have hW0 := hC.1
  refine lv_aload_n X.1 X.2.1 dL_law_169 rfl (lv_at hl 1 rfl) ?_
  refine lw_rd X hX hbl hbA hS hl 1 (by omega) hL (by decide +kernel) dL_law_170 dL_law_171 dL_law_172 dL_law_173 dL_law_174 ?_
  refine lw_rd X hX hbl hbA hS hl 2 (by omega) hL (by decide +kernel) dL_law_175 dL_law_176 dL_law_177 dL_law_178 dL_law_179 ?_
  refine lw_rd X hX hbl hbA hS hl 3 (by omega) hL (by decide +kernel) dL_law_180 dL_law_181 dL_law_182 dL_law_183 dL_law_184 ?_
  refine ln_vU2 X (CW_ad a g) hap (τ2 := τ) hA (c_X9_road l D g a σ 33 N v hC hv9 (xs (i + 1)) (xs (i + 2)) (xs (i + 3)) (by decide)) hPC hDC hS hPM 0 rfl rfl mM_L_18 Y_X9_road rfl (Nat.le_refl 34) hl.1 rfl (Nat.le_of_ble_eq_true rfl) dL_law_185 hf (fun z σ H locs hz hPC hDC hS hPM => ?_)
  obtain ⟨M1, hC, hz⟩ := hz
  refine lv_aload_n X.1 X.2.1 dL_law_188 rfl (lv_at hl 2 rfl) ?_
  refine lw_rd X hX hbl hbA hS hl 1 (by omega) hL (by decide +kernel) dL_law_189 dL_law_190 dL_law_191 dL_law_192 dL_law_193 ?_
  refine lw_rd X hX hbl hbA hS hl 2 (by omega) hL (by decide +kernel) dL_law_194 dL_law_195 dL_law_196 dL_law_197 dL_law_198 ?_
  refine lw_rd X hX hbl hbA hS hl 3 (by omega) hL (by decide +kernel) dL_law_199 dL_law_200 dL_law_201 dL_law_202 dL_law_203 ?_
  refine ln_vU2 X (MW_ad b g) hap.flip (τ2 := σ) hA (c_X10_road l D g b τ 33 N hM (xs (i + 1)) (xs (i + 2)) (xs (i + 3)) (by decide)) hPM hDM hS hPC 0 rfl rfl mM_L_22 Y_X10_road rfl (Nat.le_refl 34) hl.1 rfl (Nat.le_of_ble_eq_true rfl) dL_law_204 hf (fun w τ H locs hw hPM hDM hS hPC => ?_)
  obtain ⟨M2, hM, hw⟩ := hw
  obtain ⟨hzw, hMM⟩ := ln_oRd_one hW0 hz hw
  subst hMM
  refine lv_icmp_eq (tgt := 937) X.1 X.2.1 dL_law_207 (by decide) (fun _ => ?_) (fun h9 => absurd hzw h9)
  exact kk M1 (v + 1) H locs (Nat.le_refl _) ⟨σ, τ, hC, hM, hPC, hDC, hPM, hDM, hS⟩
set_option maxHeartbeats 4000000 in
set_option maxRecDepth 100000 in
theorem lw_bar (X : ln_X p room_1 s m c cL_law 4 RL D g 34) (hA : ∀ q, s.heap.size ≤ q → A q) (hX : va_X b0 L xs s s.heap) (hbl : b0 < s.heap.size) (hbA : ¬ A b0) (hap : ln_ap (CW a g) (MW b g)) (hf : cells ≤ room_1.cells ∧ slots ≤ room_1.slots) (hL : L ≤ 2048) (hi : i + 4 ≤ L) (hv9 : v < 900000) (hJ : ln_J s D g A a b N v H locs) (hl : lv_has ls 4 [(0, .ref b0), (1, .ref (a 0)), (2, .ref (b 0)), (3, .int (nI i))])
    (kk : ∀ (N1 : ln_N) (v1 : Nat) (H1 : Heap) (locs1 : List Loc), v1 ≤ v + 1 → ln_J s D g A a b N1 v1 H1 locs1 → W p l e room_1 s m args below meth c H1 locs1 cells slots Q (F0 m 937 ls [])) : W p l e room_1 s m args below meth c H locs cells slots Q (F0 m 212 ls []) := by
  obtain ⟨σ, τ, hC, hM, hPC, hDC, hPM, hDM, hS⟩ := hJ
  have hW0 := hC.1
  refine lv_aload_n X.1 X.2.1 dL_law_212 rfl (lv_at hl 1 rfl) ?_
  refine lw_rd X hX hbl hbA hS hl 1 (by omega) hL (by decide +kernel) dL_law_213 dL_law_214 dL_law_215 dL_law_216 dL_law_217 ?_
  refine lw_rd X hX hbl hbA hS hl 2 (by omega) hL (by decide +kernel) dL_law_218 dL_law_219 dL_law_220 dL_law_221 dL_law_222 ?_
  refine ln_vU2 X (CW_ad a g) hap (τ2 := τ) hA (c_X9_bar l D g a σ 33 N v hC hv9 (xs (i + 1)) (xs (i + 2)) (by decide)) hPC hDC hS hPM 0 rfl rfl mM_L_23 Y_X9_bar rfl (Nat.le_refl 34) hl.1 rfl (Nat.le_of_ble_eq_true rfl) dL_law_223 hf (fun z σ H locs hz hPC hDC hS hPM => ?_)
  obtain ⟨M1, hC, hz⟩ := hz
  refine lv_aload_n X.1 X.2.1 dL_law_226 rfl (lv_at hl 2 rfl) ?_
  refine lw_rd X hX hbl hbA hS hl 1 (by omega) hL (by decide +kernel) dL_law_227 dL_law_228 dL_law_229 dL_law_230 dL_law_231 ?_
  refine lw_rd X hX hbl hbA hS hl 2 (by omega) hL (by decide +kernel) dL_law_232 dL_law_233 dL_law_234 dL_law_235 dL_law_236 ?_
  refine ln_vU2 X (MW_ad b g) hap.flip (τ2 := σ) hA (c_X10_bar l D g b τ 33 N hM (xs (i + 1)) (xs (i + 2)) (by decide)) hPM hDM hS hPC 0 rfl rfl mM_L_27 Y_X10_bar rfl (Nat.le_refl 34) hl.1 rfl (Nat.le_of_ble_eq_true rfl) dL_law_237 hf (fun w τ H locs hw hPM hDM hS hPC => ?_)
  obtain ⟨M2, hM, hw⟩ := hw
  obtain ⟨hzw, hMM⟩ := ln_oSt_one (by decide) hW0 hz hw
  subst hMM
  refine lv_icmp_eq (tgt := 937) X.1 X.2.1 dL_law_240 (by decide) (fun _ => ?_) (fun h9 => absurd hzw h9)
  exact kk M1 (v + 1) H locs (Nat.le_refl _) ⟨σ, τ, hC, hM, hPC, hDC, hPM, hDM, hS⟩
set_option maxHeartbeats 4000000 in
set_option maxRecDepth 100000 in
theorem lw_price (X : ln_X p room_1 s m c cL_law 4 RL D g 34) (hA : ∀ q, s.heap.size ≤ q → A q) (hX : va_X b0 L xs s s.heap) (hbl : b0 < s.heap.size) (hbA : ¬ A b0) (hap : ln_ap (CW a g) (MW b g)) (hf : cells ≤ room_1.cells ∧ slots ≤ room_1.slots) (hL : L ≤ 2048) (hi : i + 4 ≤ L) (hv9 : v < 900000) (hJ : ln_J s D g A a b N v H locs) (hl : lv_has ls 4 [(0, .ref b0), (1, .ref (a 0)), (2, .ref (b 0)), (3, .int (nI i))])
    (kk : ∀ (N1 : ln_N) (v1 : Nat) (H1 : Heap) (locs1 : List Loc), v1 ≤ v + 1 → ln_J s D g A a b N1 v1 H1 locs1 → W p l e room_1 s m args below meth c H1 locs1 cells slots Q (F0 m 937 ls [])) : W p l e room_1 s m args below meth c H locs cells slots Q (F0 m 245 ls []) := by
  obtain ⟨σ, τ, hC, hM, hPC, hDC, hPM, hDM, hS⟩ := hJ
  have hW0 := hC.1
  refine lv_aload_n X.1 X.2.1 dL_law_245 rfl (lv_at hl 1 rfl) ?_
  refine lw_rd X hX hbl hbA hS hl 1 (by omega) hL (by decide +kernel) dL_law_246 dL_law_247 dL_law_248 dL_law_249 dL_law_250 ?_
  refine lw_rd X hX hbl hbA hS hl 2 (by omega) hL (by decide +kernel) dL_law_251 dL_law_252 dL_law_253 dL_law_254 dL_law_255 ?_
  refine ln_vU2 X (CW_ad a g) hap (τ2 := τ) hA (c_X9_price l D g a σ 33 N v hC (xs (i + 1)) (xs (i + 2)) (by decide)) hPC hDC hS hPM 0 rfl rfl mM_L_28 Y_X9_price rfl (Nat.le_refl 34) hl.1 rfl (Nat.le_of_ble_eq_true rfl) dL_law_256 hf (fun z σ H locs hz hPC hDC hS hPM => ?_)
  obtain ⟨M1, hC, hz⟩ := hz
  refine lv_aload_n X.1 X.2.1 dL_law_259 rfl (lv_at hl 2 rfl) ?_
  refine lw_rd X hX hbl hbA hS hl 1 (by omega) hL (by decide +kernel) dL_law_260 dL_law_261 dL_law_262 dL_law_263 dL_law_264 ?_
  refine lw_rd X hX hbl hbA hS hl 2 (by omega) hL (by decide +kernel) dL_law_265 dL_law_266 dL_law_267 dL_law_268 dL_law_269 ?_
  refine ln_vU2 X (MW_ad b g) hap.flip (τ2 := σ) hA (c_X10_price l D g b τ 33 N hM (xs (i + 1)) (xs (i + 2)) (by decide)) hPM hDM hS hPC 0 rfl rfl mM_L_31 Y_X10_price rfl (Nat.le_refl 34) hl.1 rfl (Nat.le_of_ble_eq_true rfl) dL_law_270 hf (fun w τ H locs hw hPM hDM hS hPC => ?_)
  obtain ⟨M2, hM, hw⟩ := hw
  obtain ⟨hzw, hMM⟩ := ln_oSt_one (by decide) hW0 hz hw
  subst hMM
  refine lv_icmp_eq (tgt := 937) X.1 X.2.1 dL_law_273 (by decide) (fun _ => ?_) (fun h9 => absurd hzw h9)
  exact kk M1 (v + 1) H locs (Nat.le_refl _) ⟨σ, τ, hC, hM, hPC, hDC, hPM, hDM, hS⟩
set_option maxHeartbeats 4000000 in
set_option maxRecDepth 100000 in
theorem lw_of (X : ln_X p room_1 s m c cL_law 4 RL D g 34) (hA : ∀ q, s.heap.size ≤ q → A q) (hX : va_X b0 L xs s s.heap) (hbl : b0 < s.heap.size) (hbA : ¬ A b0) (hap : ln_ap (CW a g) (MW b g)) (hf : cells ≤ room_1.cells ∧ slots ≤ room_1.slots) (hL : L ≤ 2048) (hi : i + 4 ≤ L) (hv9 : v < 900000) (hJ : ln_J s D g A a b N v H locs) (hl : lv_has ls 4 [(0, .ref b0), (1, .ref (a 0)), (2, .ref (b 0)), (3, .int (nI i))])
    (kk : ∀ (N1 : ln_N) (v1 : Nat) (H1 : Heap) (locs1 : List Loc), v1 ≤ v + 1 → ln_J s D g A a b N1 v1 H1 locs1 → W p l e room_1 s m args below meth c H1 locs1 cells slots Q (F0 m 937 ls [])) : W p l e room_1 s m args below meth c H locs cells slots Q (F0 m 278 ls []) := by
  obtain ⟨σ, τ, hC, hM, hPC, hDC, hPM, hDM, hS⟩ := hJ
  have hW0 := hC.1
  refine lv_aload_n X.1 X.2.1 dL_law_278 rfl (lv_at hl 1 rfl) ?_
  refine lw_rd X hX hbl hbA hS hl 1 (by omega) hL (by decide +kernel) dL_law_279 dL_law_280 dL_law_281 dL_law_282 dL_law_283 ?_
  refine lw_rd X hX hbl hbA hS hl 2 (by omega) hL (by decide +kernel) dL_law_284 dL_law_285 dL_law_286 dL_law_287 dL_law_288 ?_
  refine ln_vR X (c_X9_of l D g a σ 33 N v hC (xs (i + 1)) (xs (i + 2)) (by decide)) hPC 0 rfl rfl mM_L_32 Y_X9_of rfl (Nat.le_refl 34) hl.1 rfl (Nat.le_of_ble_eq_true rfl) dL_law_289 hf (fun z hz => ?_)
  refine lv_aload_n X.1 X.2.1 dL_law_292 rfl (lv_at hl 2 rfl) ?_
  refine lw_rd X hX hbl hbA hS hl 1 (by omega) hL (by decide +kernel) dL_law_293 dL_law_294 dL_law_295 dL_law_296 dL_law_297 ?_
  refine lw_rd X hX hbl hbA hS hl 2 (by omega) hL (by decide +kernel) dL_law_298 dL_law_299 dL_law_300 dL_law_301 dL_law_302 ?_
  refine ln_vR X (c_X10_of l D g b τ 33 N hM.1 hM.2.1 (xs (i + 1)) (xs (i + 2)) (by decide)) hPM 0 rfl rfl mM_L_35 Y_X10_of rfl (Nat.le_refl 34) hl.1 rfl (Nat.le_of_ble_eq_true rfl) dL_law_303 hf (fun w hw => ?_)
  refine lv_icmp_eq (tgt := 937) X.1 X.2.1 dL_law_306 (by decide) (fun _ => ?_) (fun h9 => absurd (ln_oOf_one hC.1 hz hw) h9)
  exact kk N v H locs (Nat.le_succ v) ⟨σ, τ, hC, hM, hPC, hDC, hPM, hDM, hS⟩
set_option maxHeartbeats 4000000 in
set_option maxRecDepth 100000 in
theorem lw_go (X : ln_X p room_1 s m c cL_law 4 RL D g 34) (hA : ∀ q, s.heap.size ≤ q → A q) (hX : va_X b0 L xs s s.heap) (hbl : b0 < s.heap.size) (hbA : ¬ A b0) (hap : ln_ap (CW a g) (MW b g)) (hf : cells ≤ room_1.cells ∧ slots ≤ room_1.slots) (hL : L ≤ 2048) (hi : i + 4 ≤ L) (hv9 : v < 900000) (hJ : ln_J s D g A a b N v H locs) (hl : lv_has ls 4 [(0, .ref b0), (1, .ref (a 0)), (2, .ref (b 0)), (3, .int (nI i))])
    (kk : ∀ (N1 : ln_N) (v1 : Nat) (H1 : Heap) (locs1 : List Loc), v1 ≤ v + 1 → ln_J s D g A a b N1 v1 H1 locs1 → W p l e room_1 s m args below meth c H1 locs1 cells slots Q (F0 m 937 ls [])) : W p l e room_1 s m args below meth c H locs cells slots Q (F0 m 311 ls []) := by
  obtain ⟨σ, τ, hC, hM, hPC, hDC, hPM, hDM, hS⟩ := hJ
  have hW0 := hC.1
  refine lv_aload_n X.1 X.2.1 dL_law_311 rfl (lv_at hl 1 rfl) ?_
  refine lw_rd X hX hbl hbA hS hl 1 (by omega) hL (by decide +kernel) dL_law_312 dL_law_313 dL_law_314 dL_law_315 dL_law_316 ?_
  refine lw_rd X hX hbl hbA hS hl 2 (by omega) hL (by decide +kernel) dL_law_317 dL_law_318 dL_law_319 dL_law_320 dL_law_321 ?_
  refine ln_vU2 X (CW_ad a g) hap (τ2 := τ) hA (c_X9_go l D g a σ 33 N v hC (xs (i + 1)) (xs (i + 2)) (by decide)) hPC hDC hS hPM 0 rfl rfl mM_L_36 Y_X9_go rfl (Nat.le_refl 34) hl.1 rfl (Nat.le_of_ble_eq_true rfl) dL_law_322 hf (fun z σ H locs hz hPC hDC hS hPM => ?_)
  obtain ⟨hC, hz⟩ := hz
  refine lv_aload_n X.1 X.2.1 dL_law_325 rfl (lv_at hl 2 rfl) ?_
  refine lw_rd X hX hbl hbA hS hl 1 (by omega) hL (by decide +kernel) dL_law_326 dL_law_327 dL_law_328 dL_law_329 dL_law_330 ?_
  refine lw_rd X hX hbl hbA hS hl 2 (by omega) hL (by decide +kernel) dL_law_331 dL_law_332 dL_law_333 dL_law_334 dL_law_335 ?_
  refine ln_vU2 X (MW_ad b g) hap.flip (τ2 := σ) hA (c_X10_go l D g b τ 33 N hM (xs (i + 1)) (xs (i + 2)) (by decide)) hPM hDM hS hPC 0 rfl rfl mM_L_39 Y_X10_go rfl (Nat.le_refl 34) hl.1 rfl (Nat.le_of_ble_eq_true rfl) dL_law_336 hf (fun w τ H locs hw hPM hDM hS hPC => ?_)
  obtain ⟨hM, hw⟩ := hw
  refine lv_icmp_eq (tgt := 937) X.1 X.2.1 dL_law_339 (by decide) (fun _ => ?_) (fun h9 => absurd (ln_oRS_one (b := 3) (by decide) hC.1 hz hw) h9)
  exact kk N v H locs (Nat.le_succ v) ⟨σ, τ, hC, hM, hPC, hDC, hPM, hDM, hS⟩
set_option maxHeartbeats 4000000 in
set_option maxRecDepth 100000 in
theorem lw_ticks (X : ln_X p room_1 s m c cL_law 4 RL D g 34) (hA : ∀ q, s.heap.size ≤ q → A q) (hX : va_X b0 L xs s s.heap) (hbl : b0 < s.heap.size) (hbA : ¬ A b0) (hap : ln_ap (CW a g) (MW b g)) (hf : cells ≤ room_1.cells ∧ slots ≤ room_1.slots) (hL : L ≤ 2048) (hi : i + 4 ≤ L) (hv9 : v < 900000) (hJ : ln_J s D g A a b N v H locs) (hl : lv_has ls 4 [(0, .ref b0), (1, .ref (a 0)), (2, .ref (b 0)), (3, .int (nI i))])
    (kk : ∀ (N1 : ln_N) (v1 : Nat) (H1 : Heap) (locs1 : List Loc), v1 ≤ v + 1 → ln_J s D g A a b N1 v1 H1 locs1 → W p l e room_1 s m args below meth c H1 locs1 cells slots Q (F0 m 937 ls [])) : W p l e room_1 s m args below meth c H locs cells slots Q (F0 m 344 ls []) := by
  obtain ⟨σ, τ, hC, hM, hPC, hDC, hPM, hDM, hS⟩ := hJ
  have hW0 := hC.1
  refine lv_aload_n X.1 X.2.1 dL_law_344 rfl (lv_at hl 1 rfl) ?_
  refine lw_rd X hX hbl hbA hS hl 1 (by omega) hL (by decide +kernel) dL_law_345 dL_law_346 dL_law_347 dL_law_348 dL_law_349 ?_
  refine lw_rd X hX hbl hbA hS hl 2 (by omega) hL (by decide +kernel) dL_law_350 dL_law_351 dL_law_352 dL_law_353 dL_law_354 ?_
  refine ln_vU2 X (CW_ad a g) hap (τ2 := τ) hA (c_X9_ticks l D g a σ 33 N v hC (xs (i + 1)) (xs (i + 2)) (by decide)) hPC hDC hS hPM 0 rfl rfl mM_L_40 Y_X9_ticks rfl (Nat.le_refl 34) hl.1 rfl (Nat.le_of_ble_eq_true rfl) dL_law_355 hf (fun z σ H locs hz hPC hDC hS hPM => ?_)
  obtain ⟨hC, hz⟩ := hz
  refine lv_aload_n X.1 X.2.1 dL_law_358 rfl (lv_at hl 2 rfl) ?_
  refine lw_rd X hX hbl hbA hS hl 1 (by omega) hL (by decide +kernel) dL_law_359 dL_law_360 dL_law_361 dL_law_362 dL_law_363 ?_
  refine lw_rd X hX hbl hbA hS hl 2 (by omega) hL (by decide +kernel) dL_law_364 dL_law_365 dL_law_366 dL_law_367 dL_law_368 ?_
  refine ln_vU2 X (MW_ad b g) hap.flip (τ2 := σ) hA (c_X10_ticks l D g b τ 33 N hM (xs (i + 1)) (xs (i + 2)) (by decide)) hPM hDM hS hPC 0 rfl rfl mM_L_43 Y_X10_ticks rfl (Nat.le_refl 34) hl.1 rfl (Nat.le_of_ble_eq_true rfl) dL_law_369 hf (fun w τ H locs hw hPM hDM hS hPC => ?_)
  obtain ⟨hM, hw⟩ := hw
  refine lv_icmp_eq (tgt := 937) X.1 X.2.1 dL_law_372 (by decide) (fun _ => ?_) (fun h9 => absurd (ln_oRS_one (b := 3) (by decide) hC.1 hz hw) h9)
  exact kk N v H locs (Nat.le_succ v) ⟨σ, τ, hC, hM, hPC, hDC, hPM, hDM, hS⟩
set_option maxHeartbeats 4000000 in
set_option maxRecDepth 100000 in
theorem lw_when (X : ln_X p room_1 s m c cL_law 4 RL D g 34) (hA : ∀ q, s.heap.size ≤ q → A q) (hX : va_X b0 L xs s s.heap) (hbl : b0 < s.heap.size) (hbA : ¬ A b0) (hap : ln_ap (CW a g) (MW b g)) (hf : cells ≤ room_1.cells ∧ slots ≤ room_1.slots) (hL : L ≤ 2048) (hi : i + 4 ≤ L) (hv9 : v < 900000) (hJ : ln_J s D g A a b N v H locs) (hl : lv_has ls 4 [(0, .ref b0), (1, .ref (a 0)), (2, .ref (b 0)), (3, .int (nI i))])
    (kk : ∀ (N1 : ln_N) (v1 : Nat) (H1 : Heap) (locs1 : List Loc), v1 ≤ v + 1 → ln_J s D g A a b N1 v1 H1 locs1 → W p l e room_1 s m args below meth c H1 locs1 cells slots Q (F0 m 937 ls [])) : W p l e room_1 s m args below meth c H locs cells slots Q (F0 m 377 ls []) := by
  obtain ⟨σ, τ, hC, hM, hPC, hDC, hPM, hDM, hS⟩ := hJ
  have hW0 := hC.1
  refine lv_aload_n X.1 X.2.1 dL_law_377 rfl (lv_at hl 1 rfl) ?_
  refine lw_rd X hX hbl hbA hS hl 1 (by omega) hL (by decide +kernel) dL_law_378 dL_law_379 dL_law_380 dL_law_381 dL_law_382 ?_
  refine lw_rd X hX hbl hbA hS hl 2 (by omega) hL (by decide +kernel) dL_law_383 dL_law_384 dL_law_385 dL_law_386 dL_law_387 ?_
  refine lw_rd X hX hbl hbA hS hl 3 (by omega) hL (by decide +kernel) dL_law_388 dL_law_389 dL_law_390 dL_law_391 dL_law_392 ?_
  refine ln_vU2 X (CW_ad a g) hap (τ2 := τ) hA (c_X9_when l D g a σ 33 N v hC (xs (i + 1)) (xs (i + 2)) (xs (i + 3)) (by decide)) hPC hDC hS hPM 0 rfl rfl mM_L_44 Y_X9_when rfl (Nat.le_refl 34) hl.1 rfl (Nat.le_of_ble_eq_true rfl) dL_law_393 hf (fun z σ H locs hz hPC hDC hS hPM => ?_)
  obtain ⟨hC, hz⟩ := hz
  refine lv_aload_n X.1 X.2.1 dL_law_396 rfl (lv_at hl 2 rfl) ?_
  refine lw_rd X hX hbl hbA hS hl 1 (by omega) hL (by decide +kernel) dL_law_397 dL_law_398 dL_law_399 dL_law_400 dL_law_401 ?_
  refine lw_rd X hX hbl hbA hS hl 2 (by omega) hL (by decide +kernel) dL_law_402 dL_law_403 dL_law_404 dL_law_405 dL_law_406 ?_
  refine lw_rd X hX hbl hbA hS hl 3 (by omega) hL (by decide +kernel) dL_law_407 dL_law_408 dL_law_409 dL_law_410 dL_law_411 ?_
  refine ln_vU2 X (MW_ad b g) hap.flip (τ2 := σ) hA (c_X10_when l D g b τ 33 N hM (xs (i + 1)) (xs (i + 2)) (xs (i + 3)) (by decide)) hPM hDM hS hPC 0 rfl rfl mM_L_47 Y_X10_when rfl (Nat.le_refl 34) hl.1 rfl (Nat.le_of_ble_eq_true rfl) dL_law_412 hf (fun w τ H locs hw hPM hDM hS hPC => ?_)
  obtain ⟨hM, hw⟩ := hw
  refine lv_icmp_eq (tgt := 937) X.1 X.2.1 dL_law_415 (by decide) (fun _ => ?_) (fun h9 => absurd (ln_oRP_one hC.1 hz hw) h9)
  exact kk N v H locs (Nat.le_succ v) ⟨σ, τ, hC, hM, hPC, hDC, hPM, hDM, hS⟩
set_option maxHeartbeats 4000000 in
set_option maxRecDepth 100000 in
theorem lw_brought (X : ln_X p room_1 s m c cL_law 4 RL D g 34) (hA : ∀ q, s.heap.size ≤ q → A q) (hX : va_X b0 L xs s s.heap) (hbl : b0 < s.heap.size) (hbA : ¬ A b0) (hap : ln_ap (CW a g) (MW b g)) (hf : cells ≤ room_1.cells ∧ slots ≤ room_1.slots) (hL : L ≤ 2048) (hi : i + 4 ≤ L) (hv9 : v < 900000) (hJ : ln_J s D g A a b N v H locs) (hl : lv_has ls 4 [(0, .ref b0), (1, .ref (a 0)), (2, .ref (b 0)), (3, .int (nI i))])
    (kk : ∀ (N1 : ln_N) (v1 : Nat) (H1 : Heap) (locs1 : List Loc), v1 ≤ v + 1 → ln_J s D g A a b N1 v1 H1 locs1 → W p l e room_1 s m args below meth c H1 locs1 cells slots Q (F0 m 937 ls [])) : W p l e room_1 s m args below meth c H locs cells slots Q (F0 m 420 ls []) := by
  obtain ⟨σ, τ, hC, hM, hPC, hDC, hPM, hDM, hS⟩ := hJ
  have hW0 := hC.1
  refine lv_aload_n X.1 X.2.1 dL_law_420 rfl (lv_at hl 1 rfl) ?_
  refine lw_rd X hX hbl hbA hS hl 1 (by omega) hL (by decide +kernel) dL_law_421 dL_law_422 dL_law_423 dL_law_424 dL_law_425 ?_
  refine lw_rd X hX hbl hbA hS hl 2 (by omega) hL (by decide +kernel) dL_law_426 dL_law_427 dL_law_428 dL_law_429 dL_law_430 ?_
  refine lw_rd X hX hbl hbA hS hl 3 (by omega) hL (by decide +kernel) dL_law_431 dL_law_432 dL_law_433 dL_law_434 dL_law_435 ?_
  refine ln_vU2 X (CW_ad a g) hap (τ2 := τ) hA (c_X9_brought l D g a σ 33 N v hC (xs (i + 1)) (xs (i + 2)) (xs (i + 3)) (by decide)) hPC hDC hS hPM 0 rfl rfl mM_L_48 Y_X9_brought rfl (Nat.le_refl 34) hl.1 rfl (Nat.le_of_ble_eq_true rfl) dL_law_436 hf (fun z σ H locs hz hPC hDC hS hPM => ?_)
  obtain ⟨hC, hz⟩ := hz
  refine lv_aload_n X.1 X.2.1 dL_law_439 rfl (lv_at hl 2 rfl) ?_
  refine lw_rd X hX hbl hbA hS hl 1 (by omega) hL (by decide +kernel) dL_law_440 dL_law_441 dL_law_442 dL_law_443 dL_law_444 ?_
  refine lw_rd X hX hbl hbA hS hl 2 (by omega) hL (by decide +kernel) dL_law_445 dL_law_446 dL_law_447 dL_law_448 dL_law_449 ?_
  refine lw_rd X hX hbl hbA hS hl 3 (by omega) hL (by decide +kernel) dL_law_450 dL_law_451 dL_law_452 dL_law_453 dL_law_454 ?_
  refine ln_vU2 X (MW_ad b g) hap.flip (τ2 := σ) hA (c_X10_brought l D g b τ 33 N hM (xs (i + 1)) (xs (i + 2)) (xs (i + 3)) (by decide)) hPM hDM hS hPC 0 rfl rfl mM_L_51 Y_X10_brought rfl (Nat.le_refl 34) hl.1 rfl (Nat.le_of_ble_eq_true rfl) dL_law_455 hf (fun w τ H locs hw hPM hDM hS hPC => ?_)
  obtain ⟨hM, hw⟩ := hw
  refine lv_icmp_eq (tgt := 937) X.1 X.2.1 dL_law_458 (by decide) (fun _ => ?_) (fun h9 => absurd (ln_oRP_one hC.1 hz hw) h9)
  exact kk N v H locs (Nat.le_succ v) ⟨σ, τ, hC, hM, hPC, hDC, hPM, hDM, hS⟩
set_option maxHeartbeats 4000000 in
set_option maxRecDepth 100000 in
theorem lw_fort (X : ln_X p room_1 s m c cL_law 4 RL D g 34) (hA : ∀ q, s.heap.size ≤ q → A q) (hX : va_X b0 L xs s s.heap) (hbl : b0 < s.heap.size) (hbA : ¬ A b0) (hap : ln_ap (CW a g) (MW b g)) (hf : cells ≤ room_1.cells ∧ slots ≤ room_1.slots) (hL : L ≤ 2048) (hi : i + 4 ≤ L) (hv9 : v < 900000) (hJ : ln_J s D g A a b N v H locs) (hl : lv_has ls 4 [(0, .ref b0), (1, .ref (a 0)), (2, .ref (b 0)), (3, .int (nI i))])
    (kk : ∀ (N1 : ln_N) (v1 : Nat) (H1 : Heap) (locs1 : List Loc), v1 ≤ v + 1 → ln_J s D g A a b N1 v1 H1 locs1 → W p l e room_1 s m args below meth c H1 locs1 cells slots Q (F0 m 937 ls [])) : W p l e room_1 s m args below meth c H locs cells slots Q (F0 m 463 ls []) := by
  obtain ⟨σ, τ, hC, hM, hPC, hDC, hPM, hDM, hS⟩ := hJ
  have hW0 := hC.1
  refine lv_aload_n X.1 X.2.1 dL_law_463 rfl (lv_at hl 1 rfl) ?_
  refine lw_rd X hX hbl hbA hS hl 1 (by omega) hL (by decide +kernel) dL_law_464 dL_law_465 dL_law_466 dL_law_467 dL_law_468 ?_
  refine lw_rd X hX hbl hbA hS hl 2 (by omega) hL (by decide +kernel) dL_law_469 dL_law_470 dL_law_471 dL_law_472 dL_law_473 ?_
  refine ln_vU2 X (CW_ad a g) hap (τ2 := τ) hA (c_X9_fort l D g a σ 33 N v hC (xs (i + 1)) (xs (i + 2)) (by decide)) hPC hDC hS hPM 0 rfl rfl mM_L_52 Y_X9_fort rfl (Nat.le_refl 34) hl.1 rfl (Nat.le_of_ble_eq_true rfl) dL_law_474 hf (fun z σ H locs hz hPC hDC hS hPM => ?_)
  obtain ⟨hC, hz⟩ := hz
  refine lv_aload_n X.1 X.2.1 dL_law_477 rfl (lv_at hl 2 rfl) ?_
  refine lw_rd X hX hbl hbA hS hl 1 (by omega) hL (by decide +kernel) dL_law_478 dL_law_479 dL_law_480 dL_law_481 dL_law_482 ?_
  refine lw_rd X hX hbl hbA hS hl 2 (by omega) hL (by decide +kernel) dL_law_483 dL_law_484 dL_law_485 dL_law_486 dL_law_487 ?_
  refine ln_vR X (c_X10_fort l D g b τ 33 N hM.1 hM.2.1 (xs (i + 1)) (xs (i + 2)) (by decide)) hPM 0 rfl rfl mM_L_55 Y_X10_fort rfl (Nat.le_refl 34) hl.1 rfl (Nat.le_of_ble_eq_true rfl) dL_law_488 hf (fun w hw => ?_)
  refine lv_icmp_eq (tgt := 937) X.1 X.2.1 dL_law_491 (by decide) (fun _ => ?_) (fun h9 => absurd (ln_oFt_one hC.1 hz hw) h9)
  exact kk N v H locs (Nat.le_succ v) ⟨σ, τ, hC, hM, hPC, hDC, hPM, hDM, hS⟩
set_option maxHeartbeats 4000000 in
set_option maxRecDepth 100000 in
theorem lw_forts (X : ln_X p room_1 s m c cL_law 4 RL D g 34) (hA : ∀ q, s.heap.size ≤ q → A q) (hX : va_X b0 L xs s s.heap) (hbl : b0 < s.heap.size) (hbA : ¬ A b0) (hap : ln_ap (CW a g) (MW b g)) (hf : cells ≤ room_1.cells ∧ slots ≤ room_1.slots) (hL : L ≤ 2048) (hi : i + 4 ≤ L) (hv9 : v < 900000) (hJ : ln_J s D g A a b N v H locs) (hl : lv_has ls 4 [(0, .ref b0), (1, .ref (a 0)), (2, .ref (b 0)), (3, .int (nI i))])
    (kk : ∀ (N1 : ln_N) (v1 : Nat) (H1 : Heap) (locs1 : List Loc), v1 ≤ v + 1 → ln_J s D g A a b N1 v1 H1 locs1 → W p l e room_1 s m args below meth c H1 locs1 cells slots Q (F0 m 937 ls [])) : W p l e room_1 s m args below meth c H locs cells slots Q (F0 m 496 ls []) := by
  obtain ⟨σ, τ, hC, hM, hPC, hDC, hPM, hDM, hS⟩ := hJ
  have hW0 := hC.1
  refine lv_aload_n X.1 X.2.1 dL_law_496 rfl (lv_at hl 1 rfl) ?_
  refine lw_rd X hX hbl hbA hS hl 1 (by omega) hL (by decide +kernel) dL_law_497 dL_law_498 dL_law_499 dL_law_500 dL_law_501 ?_
  refine lw_rd X hX hbl hbA hS hl 2 (by omega) hL (by decide +kernel) dL_law_502 dL_law_503 dL_law_504 dL_law_505 dL_law_506 ?_
  refine ln_vU2 X (CW_ad a g) hap (τ2 := τ) hA (c_X9_forts l D g a σ 33 N v hC (xs (i + 1)) (xs (i + 2)) (by decide)) hPC hDC hS hPM 0 rfl rfl mM_L_56 Y_X9_forts rfl (Nat.le_refl 34) hl.1 rfl (Nat.le_of_ble_eq_true rfl) dL_law_507 hf (fun z σ H locs hz hPC hDC hS hPM => ?_)
  obtain ⟨hC, hz⟩ := hz
  refine lv_aload_n X.1 X.2.1 dL_law_510 rfl (lv_at hl 2 rfl) ?_
  refine lw_rd X hX hbl hbA hS hl 1 (by omega) hL (by decide +kernel) dL_law_511 dL_law_512 dL_law_513 dL_law_514 dL_law_515 ?_
  refine lw_rd X hX hbl hbA hS hl 2 (by omega) hL (by decide +kernel) dL_law_516 dL_law_517 dL_law_518 dL_law_519 dL_law_520 ?_
  refine ln_vU2 X (MW_ad b g) hap.flip (τ2 := σ) hA (c_X10_forts l D g b τ 33 N hM (xs (i + 1)) (xs (i + 2)) (by decide)) hPM hDM hS hPC 0 rfl rfl mM_L_59 Y_X10_forts rfl (Nat.le_refl 34) hl.1 rfl (Nat.le_of_ble_eq_true rfl) dL_law_521 hf (fun w τ H locs hw hPM hDM hS hPC => ?_)
  obtain ⟨hM, hw⟩ := hw
  refine lv_icmp_eq (tgt := 937) X.1 X.2.1 dL_law_524 (by decide) (fun _ => ?_) (fun h9 => absurd (ln_oFk_one hz hw) h9)
  exact kk N v H locs (Nat.le_succ v) ⟨σ, τ, hC, hM, hPC, hDC, hPM, hDM, hS⟩
set_option maxHeartbeats 4000000 in
set_option maxRecDepth 100000 in
theorem lw_apart (X : ln_X p room_1 s m c cL_law 4 RL D g 34) (hA : ∀ q, s.heap.size ≤ q → A q) (hX : va_X b0 L xs s s.heap) (hbl : b0 < s.heap.size) (hbA : ¬ A b0) (hap : ln_ap (CW a g) (MW b g)) (hf : cells ≤ room_1.cells ∧ slots ≤ room_1.slots) (hL : L ≤ 2048) (hi : i + 4 ≤ L) (hv9 : v < 900000) (hJ : ln_J s D g A a b N v H locs) (hl : lv_has ls 4 [(0, .ref b0), (1, .ref (a 0)), (2, .ref (b 0)), (3, .int (nI i))])
    (kk : ∀ (N1 : ln_N) (v1 : Nat) (H1 : Heap) (locs1 : List Loc), v1 ≤ v + 1 → ln_J s D g A a b N1 v1 H1 locs1 → W p l e room_1 s m args below meth c H1 locs1 cells slots Q (F0 m 937 ls [])) : W p l e room_1 s m args below meth c H locs cells slots Q (F0 m 529 ls []) := by
  obtain ⟨σ, τ, hC, hM, hPC, hDC, hPM, hDM, hS⟩ := hJ
  have hW0 := hC.1
  refine lv_aload_n X.1 X.2.1 dL_law_529 rfl (lv_at hl 1 rfl) ?_
  refine lw_rd X hX hbl hbA hS hl 1 (by omega) hL (by decide +kernel) dL_law_530 dL_law_531 dL_law_532 dL_law_533 dL_law_534 ?_
  refine ln_vU2 X (CW_ad a g) hap (τ2 := τ) hA (c_X9_apart l D g a σ 33 N v hC (xs (i + 1)) (by decide)) hPC hDC hS hPM 0 rfl rfl mM_L_60 Y_X9_apart rfl (Nat.le_refl 34) hl.1 rfl (Nat.le_of_ble_eq_true rfl) dL_law_535 hf (fun z σ H locs hz hPC hDC hS hPM => ?_)
  obtain ⟨hC, hz⟩ := hz
  refine lv_aload_n X.1 X.2.1 dL_law_538 rfl (lv_at hl 2 rfl) ?_
  refine lw_rd X hX hbl hbA hS hl 1 (by omega) hL (by decide +kernel) dL_law_539 dL_law_540 dL_law_541 dL_law_542 dL_law_543 ?_
  refine ln_vU2 X (MW_ad b g) hap.flip (τ2 := σ) hA (c_X10_apart l D g b τ 33 N hM (xs (i + 1)) (by decide)) hPM hDM hS hPC 0 rfl rfl mM_L_64 Y_X10_apart rfl (Nat.le_refl 34) hl.1 rfl (Nat.le_of_ble_eq_true rfl) dL_law_544 hf (fun w τ H locs hw hPM hDM hS hPC => ?_)
  obtain ⟨hM, hw⟩ := hw
  refine lv_icmp_eq (tgt := 937) X.1 X.2.1 dL_law_547 (by decide) (fun _ => ?_) (fun h9 => absurd (ln_oAp_one hz hw) h9)
  exact kk N v H locs (Nat.le_succ v) ⟨σ, τ, hC, hM, hPC, hDC, hPM, hDM, hS⟩
set_option maxHeartbeats 4000000 in
set_option maxRecDepth 100000 in
theorem lw_least (X : ln_X p room_1 s m c cL_law 4 RL D g 34) (hA : ∀ q, s.heap.size ≤ q → A q) (hX : va_X b0 L xs s s.heap) (hbl : b0 < s.heap.size) (hbA : ¬ A b0) (hap : ln_ap (CW a g) (MW b g)) (hf : cells ≤ room_1.cells ∧ slots ≤ room_1.slots) (hL : L ≤ 2048) (hi : i + 4 ≤ L) (hv9 : v < 900000) (hJ : ln_J s D g A a b N v H locs) (hl : lv_has ls 4 [(0, .ref b0), (1, .ref (a 0)), (2, .ref (b 0)), (3, .int (nI i))])
    (kk : ∀ (N1 : ln_N) (v1 : Nat) (H1 : Heap) (locs1 : List Loc), v1 ≤ v + 1 → ln_J s D g A a b N1 v1 H1 locs1 → W p l e room_1 s m args below meth c H1 locs1 cells slots Q (F0 m 937 ls [])) : W p l e room_1 s m args below meth c H locs cells slots Q (F0 m 552 ls []) := by
  obtain ⟨σ, τ, hC, hM, hPC, hDC, hPM, hDM, hS⟩ := hJ
  have hW0 := hC.1
  refine lv_aload_n X.1 X.2.1 dL_law_552 rfl (lv_at hl 1 rfl) ?_
  refine lw_rd X hX hbl hbA hS hl 1 (by omega) hL (by decide +kernel) dL_law_553 dL_law_554 dL_law_555 dL_law_556 dL_law_557 ?_
  refine ln_vU2 X (CW_ad a g) hap (τ2 := τ) hA (c_X9_least l D g a σ 33 N v hC (xs (i + 1)) (by decide)) hPC hDC hS hPM 0 rfl rfl mM_L_65 Y_X9_least rfl (Nat.le_refl 34) hl.1 rfl (Nat.le_of_ble_eq_true rfl) dL_law_558 hf (fun z σ H locs hz hPC hDC hS hPM => ?_)
  obtain ⟨hC, hz⟩ := hz
  refine lv_aload_n X.1 X.2.1 dL_law_561 rfl (lv_at hl 2 rfl) ?_
  refine lw_rd X hX hbl hbA hS hl 1 (by omega) hL (by decide +kernel) dL_law_562 dL_law_563 dL_law_564 dL_law_565 dL_law_566 ?_
  refine ln_vU2 X (MW_ad b g) hap.flip (τ2 := σ) hA (c_X10_least l D g b τ 33 N hM (xs (i + 1)) (by decide)) hPM hDM hS hPC 0 rfl rfl mM_L_68 Y_X10_least rfl (Nat.le_refl 34) hl.1 rfl (Nat.le_of_ble_eq_true rfl) dL_law_567 hf (fun w τ H locs hw hPM hDM hS hPC => ?_)
  obtain ⟨hM, hw⟩ := hw
  refine lv_icmp_eq (tgt := 937) X.1 X.2.1 dL_law_570 (by decide) (fun _ => ?_) (fun h9 => absurd (ln_oLs_one hz hw) h9)
  exact kk N v H locs (Nat.le_succ v) ⟨σ, τ, hC, hM, hPC, hDC, hPM, hDM, hS⟩
set_option maxHeartbeats 4000000 in
set_option maxRecDepth 100000 in
theorem lw_many (X : ln_X p room_1 s m c cL_law 4 RL D g 34) (hA : ∀ q, s.heap.size ≤ q → A q) (hX : va_X b0 L xs s s.heap) (hbl : b0 < s.heap.size) (hbA : ¬ A b0) (hap : ln_ap (CW a g) (MW b g)) (hf : cells ≤ room_1.cells ∧ slots ≤ room_1.slots) (hL : L ≤ 2048) (hi : i + 4 ≤ L) (hv9 : v < 900000) (hJ : ln_J s D g A a b N v H locs) (hl : lv_has ls 4 [(0, .ref b0), (1, .ref (a 0)), (2, .ref (b 0)), (3, .int (nI i))])
    (kk : ∀ (N1 : ln_N) (v1 : Nat) (H1 : Heap) (locs1 : List Loc), v1 ≤ v + 1 → ln_J s D g A a b N1 v1 H1 locs1 → W p l e room_1 s m args below meth c H1 locs1 cells slots Q (F0 m 937 ls [])) : W p l e room_1 s m args below meth c H locs cells slots Q (F0 m 575 ls []) := by
  obtain ⟨σ, τ, hC, hM, hPC, hDC, hPM, hDM, hS⟩ := hJ
  have hW0 := hC.1
  refine lv_aload_n X.1 X.2.1 dL_law_575 rfl (lv_at hl 1 rfl) ?_
  refine lw_rd X hX hbl hbA hS hl 1 (by omega) hL (by decide +kernel) dL_law_576 dL_law_577 dL_law_578 dL_law_579 dL_law_580 ?_
  refine ln_vU2 X (CW_ad a g) hap (τ2 := τ) hA (c_X9_many l D g a σ 33 N v hC (xs (i + 1)) (by decide)) hPC hDC hS hPM 0 rfl rfl mM_L_69 Y_X9_many rfl (Nat.le_refl 34) hl.1 rfl (Nat.le_of_ble_eq_true rfl) dL_law_581 hf (fun z σ H locs hz hPC hDC hS hPM => ?_)
  obtain ⟨hC, hz⟩ := hz
  refine lv_aload_n X.1 X.2.1 dL_law_584 rfl (lv_at hl 2 rfl) ?_
  refine lw_rd X hX hbl hbA hS hl 1 (by omega) hL (by decide +kernel) dL_law_585 dL_law_586 dL_law_587 dL_law_588 dL_law_589 ?_
  refine ln_vU2 X (MW_ad b g) hap.flip (τ2 := σ) hA (c_X10_many l D g b τ 33 N hM (xs (i + 1)) (by decide)) hPM hDM hS hPC 0 rfl rfl mM_L_72 Y_X10_many rfl (Nat.le_refl 34) hl.1 rfl (Nat.le_of_ble_eq_true rfl) dL_law_590 hf (fun w τ H locs hw hPM hDM hS hPC => ?_)
  obtain ⟨hM, hw⟩ := hw
  refine lv_icmp_eq (tgt := 937) X.1 X.2.1 dL_law_593 (by decide) (fun _ => ?_) (fun h9 => absurd (ln_oMn_one hz hw) h9)
  exact kk N v H locs (Nat.le_succ v) ⟨σ, τ, hC, hM, hPC, hDC, hPM, hDM, hS⟩
set_option maxHeartbeats 4000000 in
set_option maxRecDepth 100000 in
theorem lw_cheapest (X : ln_X p room_1 s m c cL_law 4 RL D g 34) (hA : ∀ q, s.heap.size ≤ q → A q) (hX : va_X b0 L xs s s.heap) (hbl : b0 < s.heap.size) (hbA : ¬ A b0) (hap : ln_ap (CW a g) (MW b g)) (hf : cells ≤ room_1.cells ∧ slots ≤ room_1.slots) (hL : L ≤ 2048) (hi : i + 4 ≤ L) (hv9 : v < 900000) (hJ : ln_J s D g A a b N v H locs) (hl : lv_has ls 4 [(0, .ref b0), (1, .ref (a 0)), (2, .ref (b 0)), (3, .int (nI i))])
    (kk : ∀ (N1 : ln_N) (v1 : Nat) (H1 : Heap) (locs1 : List Loc), v1 ≤ v + 1 → ln_J s D g A a b N1 v1 H1 locs1 → W p l e room_1 s m args below meth c H1 locs1 cells slots Q (F0 m 937 ls [])) : W p l e room_1 s m args below meth c H locs cells slots Q (F0 m 598 ls []) := by
  obtain ⟨σ, τ, hC, hM, hPC, hDC, hPM, hDM, hS⟩ := hJ
  have hW0 := hC.1
  refine lv_aload_n X.1 X.2.1 dL_law_598 rfl (lv_at hl 1 rfl) ?_
  refine lw_rd X hX hbl hbA hS hl 1 (by omega) hL (by decide +kernel) dL_law_599 dL_law_600 dL_law_601 dL_law_602 dL_law_603 ?_
  refine ln_vU2 X (CW_ad a g) hap (τ2 := τ) hA (c_X9_cheapest l D g a σ 33 N v hC (xs (i + 1)) (by decide)) hPC hDC hS hPM 0 rfl rfl mM_L_73 Y_X9_cheapest rfl (Nat.le_refl 34) hl.1 rfl (Nat.le_of_ble_eq_true rfl) dL_law_604 hf (fun z σ H locs hz hPC hDC hS hPM => ?_)
  obtain ⟨hC, hz⟩ := hz
  refine lv_aload_n X.1 X.2.1 dL_law_607 rfl (lv_at hl 2 rfl) ?_
  refine lw_rd X hX hbl hbA hS hl 1 (by omega) hL (by decide +kernel) dL_law_608 dL_law_609 dL_law_610 dL_law_611 dL_law_612 ?_
  refine ln_vU2 X (MW_ad b g) hap.flip (τ2 := σ) hA (c_X10_cheapest l D g b τ 33 N hM (xs (i + 1)) (by decide)) hPM hDM hS hPC 0 rfl rfl mM_L_76 Y_X10_cheapest rfl (Nat.le_refl 34) hl.1 rfl (Nat.le_of_ble_eq_true rfl) dL_law_613 hf (fun w τ H locs hw hPM hDM hS hPC => ?_)
  obtain ⟨hM, hw⟩ := hw
  refine lv_icmp_eq (tgt := 937) X.1 X.2.1 dL_law_616 (by decide) (fun _ => ?_) (fun h9 => absurd (ln_oCh_one hz hw) h9)
  exact kk N v H locs (Nat.le_succ v) ⟨σ, τ, hC, hM, hPC, hDC, hPM, hDM, hS⟩
set_option maxHeartbeats 4000000 in
set_option maxRecDepth 100000 in
theorem lw_pared (X : ln_X p room_1 s m c cL_law 4 RL D g 34) (hA : ∀ q, s.heap.size ≤ q → A q) (hX : va_X b0 L xs s s.heap) (hbl : b0 < s.heap.size) (hbA : ¬ A b0) (hap : ln_ap (CW a g) (MW b g)) (hf : cells ≤ room_1.cells ∧ slots ≤ room_1.slots) (hL : L ≤ 2048) (hi : i + 4 ≤ L) (hv9 : v < 900000) (hJ : ln_J s D g A a b N v H locs) (hl : lv_has ls 4 [(0, .ref b0), (1, .ref (a 0)), (2, .ref (b 0)), (3, .int (nI i))])
    (kk : ∀ (N1 : ln_N) (v1 : Nat) (H1 : Heap) (locs1 : List Loc), v1 ≤ v + 1 → ln_J s D g A a b N1 v1 H1 locs1 → W p l e room_1 s m args below meth c H1 locs1 cells slots Q (F0 m 937 ls [])) : W p l e room_1 s m args below meth c H locs cells slots Q (F0 m 621 ls []) := by
  obtain ⟨σ, τ, hC, hM, hPC, hDC, hPM, hDM, hS⟩ := hJ
  have hW0 := hC.1
  refine lv_aload_n X.1 X.2.1 dL_law_621 rfl (lv_at hl 1 rfl) ?_
  refine lw_rd X hX hbl hbA hS hl 1 (by omega) hL (by decide +kernel) dL_law_622 dL_law_623 dL_law_624 dL_law_625 dL_law_626 ?_
  refine ln_vU2 X (CW_ad a g) hap (τ2 := τ) hA (c_X9_pared l D g a σ 33 N v hC (xs (i + 1)) (by decide)) hPC hDC hS hPM 0 rfl rfl mM_L_77 Y_X9_pared rfl (Nat.le_refl 34) hl.1 rfl (Nat.le_of_ble_eq_true rfl) dL_law_627 hf (fun z σ H locs hz hPC hDC hS hPM => ?_)
  obtain ⟨hC, hz⟩ := hz
  refine lv_aload_n X.1 X.2.1 dL_law_630 rfl (lv_at hl 2 rfl) ?_
  refine lw_rd X hX hbl hbA hS hl 1 (by omega) hL (by decide +kernel) dL_law_631 dL_law_632 dL_law_633 dL_law_634 dL_law_635 ?_
  refine ln_vU2 X (MW_ad b g) hap.flip (τ2 := σ) hA (c_X10_pared l D g b τ 33 N hM (xs (i + 1)) (by decide)) hPM hDM hS hPC 0 rfl rfl mM_L_80 Y_X10_pared rfl (Nat.le_refl 34) hl.1 rfl (Nat.le_of_ble_eq_true rfl) dL_law_636 hf (fun w τ H locs hw hPM hDM hS hPC => ?_)
  obtain ⟨hM, hw⟩ := hw
  refine lv_icmp_eq (tgt := 937) X.1 X.2.1 dL_law_639 (by decide) (fun _ => ?_) (fun h9 => absurd (ln_oPd_one hz hw) h9)
  exact kk N v H locs (Nat.le_succ v) ⟨σ, τ, hC, hM, hPC, hDC, hPM, hDM, hS⟩
set_option maxHeartbeats 4000000 in
set_option maxRecDepth 100000 in
theorem lw_burn (X : ln_X p room_1 s m c cL_law 4 RL D g 34) (hA : ∀ q, s.heap.size ≤ q → A q) (hX : va_X b0 L xs s s.heap) (hbl : b0 < s.heap.size) (hbA : ¬ A b0) (hap : ln_ap (CW a g) (MW b g)) (hf : cells ≤ room_1.cells ∧ slots ≤ room_1.slots) (hL : L ≤ 2048) (hi : i + 4 ≤ L) (hv9 : v < 900000) (hJ : ln_J s D g A a b N v H locs) (hl : lv_has ls 4 [(0, .ref b0), (1, .ref (a 0)), (2, .ref (b 0)), (3, .int (nI i))])
    (kk : ∀ (N1 : ln_N) (v1 : Nat) (H1 : Heap) (locs1 : List Loc), v1 ≤ v + 1 → ln_J s D g A a b N1 v1 H1 locs1 → W p l e room_1 s m args below meth c H1 locs1 cells slots Q (F0 m 937 ls [])) : W p l e room_1 s m args below meth c H locs cells slots Q (F0 m 644 ls []) := by
  obtain ⟨σ, τ, hC, hM, hPC, hDC, hPM, hDM, hS⟩ := hJ
  have hW0 := hC.1
  refine lv_aload_n X.1 X.2.1 dL_law_644 rfl (lv_at hl 1 rfl) ?_
  refine ln_vU2 X (CW_ad a g) hap (τ2 := τ) hA (c_X9_burn l D g a σ 33 N v hC (by decide)) hPC hDC hS hPM 0 rfl rfl mM_L_81 Y_X9_burn rfl (Nat.le_refl 34) hl.1 rfl (Nat.le_of_ble_eq_true rfl) dL_law_645 hf (fun z σ H locs hz hPC hDC hS hPM => ?_)
  obtain ⟨hC, hz⟩ := hz
  refine lv_aload_n X.1 X.2.1 dL_law_648 rfl (lv_at hl 2 rfl) ?_
  refine ln_vU2 X (MW_ad b g) hap.flip (τ2 := σ) hA (c_X10_burn l D g b τ 33 N hM (by decide)) hPM hDM hS hPC 0 rfl rfl mM_L_84 Y_X10_burn rfl (Nat.le_refl 34) hl.1 rfl (Nat.le_of_ble_eq_true rfl) dL_law_649 hf (fun w τ H locs hw hPM hDM hS hPC => ?_)
  obtain ⟨hM, hw⟩ := hw
  refine lv_icmp_eq (tgt := 937) X.1 X.2.1 dL_law_652 (by decide) (fun _ => ?_) (fun h9 => absurd (hz.trans hw.symm) h9)
  exact kk N v H locs (Nat.le_succ v) ⟨σ, τ, hC, hM, hPC, hDC, hPM, hDM, hS⟩
set_option maxHeartbeats 4000000 in
set_option maxRecDepth 100000 in
theorem lw_hand (X : ln_X p room_1 s m c cL_law 4 RL D g 34) (hA : ∀ q, s.heap.size ≤ q → A q) (hX : va_X b0 L xs s s.heap) (hbl : b0 < s.heap.size) (hbA : ¬ A b0) (hap : ln_ap (CW a g) (MW b g)) (hf : cells ≤ room_1.cells ∧ slots ≤ room_1.slots) (hL : L ≤ 2048) (hi : i + 4 ≤ L) (hv9 : v < 900000) (hJ : ln_J s D g A a b N v H locs) (hl : lv_has ls 4 [(0, .ref b0), (1, .ref (a 0)), (2, .ref (b 0)), (3, .int (nI i))])
    (kk : ∀ (N1 : ln_N) (v1 : Nat) (H1 : Heap) (locs1 : List Loc), v1 ≤ v + 1 → ln_J s D g A a b N1 v1 H1 locs1 → W p l e room_1 s m args below meth c H1 locs1 cells slots Q (F0 m 937 ls [])) : W p l e room_1 s m args below meth c H locs cells slots Q (F0 m 657 ls []) := by
  obtain ⟨σ, τ, hC, hM, hPC, hDC, hPM, hDM, hS⟩ := hJ
  have hW0 := hC.1
  refine lv_aload_n X.1 X.2.1 dL_law_657 rfl (lv_at hl 1 rfl) ?_
  refine lw_rd X hX hbl hbA hS hl 1 (by omega) hL (by decide +kernel) dL_law_658 dL_law_659 dL_law_660 dL_law_661 dL_law_662 ?_
  refine ln_vU2 X (CW_ad a g) hap (τ2 := τ) hA (c_X9_hand l D g a σ 33 N v hC (xs (i + 1)) (by decide)) hPC hDC hS hPM 0 rfl rfl mM_L_85 Y_X9_hand rfl (Nat.le_refl 34) hl.1 rfl (Nat.le_of_ble_eq_true rfl) dL_law_663 hf (fun z σ H locs hz hPC hDC hS hPM => ?_)
  obtain ⟨hC, hz⟩ := hz
  refine lv_aload_n X.1 X.2.1 dL_law_666 rfl (lv_at hl 2 rfl) ?_
  refine lw_rd X hX hbl hbA hS hl 1 (by omega) hL (by decide +kernel) dL_law_667 dL_law_668 dL_law_669 dL_law_670 dL_law_671 ?_
  refine ln_vU2 X (MW_ad b g) hap.flip (τ2 := σ) hA (c_X10_hand l D g b τ 33 N hM (xs (i + 1)) (by decide)) hPM hDM hS hPC 0 rfl rfl mM_L_88 Y_X10_hand rfl (Nat.le_refl 34) hl.1 rfl (Nat.le_of_ble_eq_true rfl) dL_law_672 hf (fun w τ H locs hw hPM hDM hS hPC => ?_)
  obtain ⟨hM, hw⟩ := hw
  refine lv_icmp_eq (tgt := 937) X.1 X.2.1 dL_law_675 (by decide) (fun _ => ?_) (fun h9 => absurd (hz.trans hw.symm) h9)
  exact kk N v H locs (Nat.le_succ v) ⟨σ, τ, hC, hM, hPC, hDC, hPM, hDM, hS⟩
set_option maxHeartbeats 4000000 in
set_option maxRecDepth 100000 in
theorem lw_burnt (X : ln_X p room_1 s m c cL_law 4 RL D g 34) (hA : ∀ q, s.heap.size ≤ q → A q) (hX : va_X b0 L xs s s.heap) (hbl : b0 < s.heap.size) (hbA : ¬ A b0) (hap : ln_ap (CW a g) (MW b g)) (hf : cells ≤ room_1.cells ∧ slots ≤ room_1.slots) (hL : L ≤ 2048) (hi : i + 4 ≤ L) (hv9 : v < 900000) (hJ : ln_J s D g A a b N v H locs) (hl : lv_has ls 4 [(0, .ref b0), (1, .ref (a 0)), (2, .ref (b 0)), (3, .int (nI i))])
    (kk : ∀ (N1 : ln_N) (v1 : Nat) (H1 : Heap) (locs1 : List Loc), v1 ≤ v + 1 → ln_J s D g A a b N1 v1 H1 locs1 → W p l e room_1 s m args below meth c H1 locs1 cells slots Q (F0 m 937 ls [])) : W p l e room_1 s m args below meth c H locs cells slots Q (F0 m 680 ls []) := by
  obtain ⟨σ, τ, hC, hM, hPC, hDC, hPM, hDM, hS⟩ := hJ
  have hW0 := hC.1
  obtain ⟨E, hE⟩ : ∃ E : Int64, (xs (i + 1)).toInt64 <<< ((nI 32).toInt64 &&& 63) ||| (xs (i + 2)).toInt64 &&& 4294967295 = E := ⟨_, rfl⟩
  by_cases hx : E < 0
  · refine lv_aload_n X.1 X.2.1 dL_law_680 rfl (lv_at hl 1 rfl) ?_
    refine lw_rd X hX hbl hbA hS hl 1 (by omega) hL (by decide +kernel) dL_law_681 dL_law_682 dL_law_683 dL_law_684 dL_law_685 ?_
    refine lv_i2l X.1 X.2.1 dL_law_686 rfl ?_
    refine lv_bipush (v := nI 32) X.1 X.2.1 dL_law_687 (by decide +kernel) ?_
    refine lv_lshl X.1 X.2.1 dL_law_689 rfl ?_
    refine lw_rd X hX hbl hbA hS hl 2 (by omega) hL (by decide +kernel) dL_law_690 dL_law_691 dL_law_692 dL_law_693 dL_law_694 ?_
    refine lv_i2l X.1 X.2.1 dL_law_695 rfl ?_
    refine lv_ldc2 X.1 X.2.1 X.2.2.2.1 (X.ts args mK_L_89 rfl) dL_law_696 ?_
    refine lv_land X.1 X.2.1 dL_law_699 ?_
    refine lv_lor X.1 X.2.1 dL_law_700 ?_
    rw [hE]
    refine ln_vR X (c_X9_burntN l D g a σ 33 E hx (by decide)) hPC 0 rfl rfl mM_L_91 Y_X9_burnt rfl (Nat.le_refl 34) hl.1 rfl (Nat.le_of_ble_eq_true rfl) dL_law_701 hf (fun z hz => ?_)
    refine lv_aload_n X.1 X.2.1 dL_law_704 rfl (lv_at hl 2 rfl) ?_
    refine lw_rd X hX hbl hbA hS hl 1 (by omega) hL (by decide +kernel) dL_law_705 dL_law_706 dL_law_707 dL_law_708 dL_law_709 ?_
    refine lv_i2l X.1 X.2.1 dL_law_710 rfl ?_
    refine lv_bipush (v := nI 32) X.1 X.2.1 dL_law_711 (by decide +kernel) ?_
    refine lv_lshl X.1 X.2.1 dL_law_713 rfl ?_
    refine lw_rd X hX hbl hbA hS hl 2 (by omega) hL (by decide +kernel) dL_law_714 dL_law_715 dL_law_716 dL_law_717 dL_law_718 ?_
    refine lv_i2l X.1 X.2.1 dL_law_719 rfl ?_
    refine lv_ldc2 X.1 X.2.1 X.2.2.2.1 (X.ts args mK_L_89 rfl) dL_law_720 ?_
    refine lv_land X.1 X.2.1 dL_law_723 ?_
    refine lv_lor X.1 X.2.1 dL_law_724 ?_
    rw [hE]
    refine ln_vR X (c_X10_burntN l D g b τ 33 E hx (by decide)) hPM 0 rfl rfl mM_L_95 Y_X10_burnt rfl (Nat.le_refl 34) hl.1 rfl (Nat.le_of_ble_eq_true rfl) dL_law_725 hf (fun w hw => ?_)
    refine lv_icmp_eq (tgt := 937) X.1 X.2.1 dL_law_728 (by decide) (fun _ => ?_) (fun h9 => absurd (hz.trans hw.symm) h9)
    exact kk N v H locs (Nat.le_succ v) ⟨σ, τ, hC, hM, hPC, hDC, hPM, hDM, hS⟩
  · obtain ⟨q, hq, hq2⟩ := lN_of hx
    refine lv_aload_n X.1 X.2.1 dL_law_680 rfl (lv_at hl 1 rfl) ?_
    refine lw_rd X hX hbl hbA hS hl 1 (by omega) hL (by decide +kernel) dL_law_681 dL_law_682 dL_law_683 dL_law_684 dL_law_685 ?_
    refine lv_i2l X.1 X.2.1 dL_law_686 rfl ?_
    refine lv_bipush (v := nI 32) X.1 X.2.1 dL_law_687 (by decide +kernel) ?_
    refine lv_lshl X.1 X.2.1 dL_law_689 rfl ?_
    refine lw_rd X hX hbl hbA hS hl 2 (by omega) hL (by decide +kernel) dL_law_690 dL_law_691 dL_law_692 dL_law_693 dL_law_694 ?_
    refine lv_i2l X.1 X.2.1 dL_law_695 rfl ?_
    refine lv_ldc2 X.1 X.2.1 X.2.2.2.1 (X.ts args mK_L_89 rfl) dL_law_696 ?_
    refine lv_land X.1 X.2.1 dL_law_699 ?_
    refine lv_lor X.1 X.2.1 dL_law_700 ?_
    rw [hE, hq2]
    refine ln_vR X (c_X9_burnt l D g a σ 33 N v hC q hq (by decide)) hPC 0 rfl rfl mM_L_91 Y_X9_burnt rfl (Nat.le_refl 34) hl.1 rfl (Nat.le_of_ble_eq_true rfl) dL_law_701 hf (fun z hz => ?_)
    refine lv_aload_n X.1 X.2.1 dL_law_704 rfl (lv_at hl 2 rfl) ?_
    refine lw_rd X hX hbl hbA hS hl 1 (by omega) hL (by decide +kernel) dL_law_705 dL_law_706 dL_law_707 dL_law_708 dL_law_709 ?_
    refine lv_i2l X.1 X.2.1 dL_law_710 rfl ?_
    refine lv_bipush (v := nI 32) X.1 X.2.1 dL_law_711 (by decide +kernel) ?_
    refine lv_lshl X.1 X.2.1 dL_law_713 rfl ?_
    refine lw_rd X hX hbl hbA hS hl 2 (by omega) hL (by decide +kernel) dL_law_714 dL_law_715 dL_law_716 dL_law_717 dL_law_718 ?_
    refine lv_i2l X.1 X.2.1 dL_law_719 rfl ?_
    refine lv_ldc2 X.1 X.2.1 X.2.2.2.1 (X.ts args mK_L_89 rfl) dL_law_720 ?_
    refine lv_land X.1 X.2.1 dL_law_723 ?_
    refine lv_lor X.1 X.2.1 dL_law_724 ?_
    rw [hE, hq2]
    refine ln_vR X (c_X10_burnt l D g b τ 33 N hM.1 hM.2.1 q hq (by decide)) hPM 0 rfl rfl mM_L_95 Y_X10_burnt rfl (Nat.le_refl 34) hl.1 rfl (Nat.le_of_ble_eq_true rfl) dL_law_725 hf (fun w hw => ?_)
    refine lv_icmp_eq (tgt := 937) X.1 X.2.1 dL_law_728 (by decide) (fun _ => ?_) (fun h9 => absurd (hz.trans hw.symm) h9)
    exact kk N v H locs (Nat.le_succ v) ⟨σ, τ, hC, hM, hPC, hDC, hPM, hDM, hS⟩
set_option maxHeartbeats 4000000 in
set_option maxRecDepth 100000 in
theorem lw_save (X : ln_X p room_1 s m c cL_law 4 RL D g 34) (hA : ∀ q, s.heap.size ≤ q → A q) (hX : va_X b0 L xs s s.heap) (hbl : b0 < s.heap.size) (hbA : ¬ A b0) (hap : ln_ap (CW a g) (MW b g)) (hf : cells ≤ room_1.cells ∧ slots ≤ room_1.slots) (hL : L ≤ 2048) (hi : i + 4 ≤ L) (hv9 : v < 900000) (hJ : ln_J s D g A a b N v H locs) (hl : lv_has ls 4 [(0, .ref b0), (1, .ref (a 0)), (2, .ref (b 0)), (3, .int (nI i))])
    (kk : ∀ (N1 : ln_N) (v1 : Nat) (H1 : Heap) (locs1 : List Loc), v1 ≤ v + 1 → ln_J s D g A a b N1 v1 H1 locs1 → W p l e room_1 s m args below meth c H1 locs1 cells slots Q (F0 m 937 ls [])) : W p l e room_1 s m args below meth c H locs cells slots Q (F0 m 733 ls []) := by
  obtain ⟨σ, τ, hC, hM, hPC, hDC, hPM, hDM, hS⟩ := hJ
  have hW0 := hC.1
  refine lv_aload_n X.1 X.2.1 dL_law_733 rfl (lv_at hl 1 rfl) ?_
  refine lw_rd X hX hbl hbA hS hl 1 (by omega) hL (by decide +kernel) dL_law_734 dL_law_735 dL_law_736 dL_law_737 dL_law_738 ?_
  refine ln_vR X (c_X9_save l D g a σ 33 N v hC (xs (i + 1)) (by decide)) hPC 0 rfl rfl mM_L_96 Y_X9_save rfl (Nat.le_refl 34) hl.1 rfl (Nat.le_of_ble_eq_true rfl) dL_law_739 hf (fun z hz => ?_)
  refine lv_aload_n X.1 X.2.1 dL_law_742 rfl (lv_at hl 2 rfl) ?_
  refine lw_rd X hX hbl hbA hS hl 1 (by omega) hL (by decide +kernel) dL_law_743 dL_law_744 dL_law_745 dL_law_746 dL_law_747 ?_
  refine ln_vU2 X (MW_ad b g) hap.flip (τ2 := σ) hA (c_X10_save l D g b τ 33 N hM (xs (i + 1)) (by decide)) hPM hDM hS hPC 0 rfl rfl mM_L_99 Y_X10_save rfl (Nat.le_refl 34) hl.1 rfl (Nat.le_of_ble_eq_true rfl) dL_law_748 hf (fun w τ H locs hw hPM hDM hS hPC => ?_)
  obtain ⟨hM, hw⟩ := hw
  refine lv_icmp_eq (tgt := 937) X.1 X.2.1 dL_law_751 (by decide) (fun _ => ?_) (fun h9 => absurd (ln_oSv_one hC.1 hz hw) h9)
  exact kk N v H locs (Nat.le_succ v) ⟨σ, τ, hC, hM, hPC, hDC, hPM, hDM, hS⟩
set_option maxHeartbeats 4000000 in
set_option maxRecDepth 100000 in
theorem lw_wall (X : ln_X p room_1 s m c cL_law 4 RL D g 34) (hA : ∀ q, s.heap.size ≤ q → A q) (hX : va_X b0 L xs s s.heap) (hbl : b0 < s.heap.size) (hbA : ¬ A b0) (hap : ln_ap (CW a g) (MW b g)) (hf : cells ≤ room_1.cells ∧ slots ≤ room_1.slots) (hL : L ≤ 2048) (hi : i + 4 ≤ L) (hv9 : v < 900000) (hJ : ln_J s D g A a b N v H locs) (hl : lv_has ls 4 [(0, .ref b0), (1, .ref (a 0)), (2, .ref (b 0)), (3, .int (nI i))])
    (kk : ∀ (N1 : ln_N) (v1 : Nat) (H1 : Heap) (locs1 : List Loc), v1 ≤ v + 1 → ln_J s D g A a b N1 v1 H1 locs1 → W p l e room_1 s m args below meth c H1 locs1 cells slots Q (F0 m 937 ls [])) : W p l e room_1 s m args below meth c H locs cells slots Q (F0 m 756 ls []) := by
  obtain ⟨σ, τ, hC, hM, hPC, hDC, hPM, hDM, hS⟩ := hJ
  have hW0 := hC.1
  refine lv_aload_n X.1 X.2.1 dL_law_756 rfl (lv_at hl 1 rfl) ?_
  refine lw_rd X hX hbl hbA hS hl 1 (by omega) hL (by decide +kernel) dL_law_757 dL_law_758 dL_law_759 dL_law_760 dL_law_761 ?_
  refine lw_rd X hX hbl hbA hS hl 2 (by omega) hL (by decide +kernel) dL_law_762 dL_law_763 dL_law_764 dL_law_765 dL_law_766 ?_
  refine ln_vR X (c_X9_wall l D g a σ 33 N v hC (xs (i + 1)) (xs (i + 2)) (by decide)) hPC 0 rfl rfl mM_L_100 Y_X9_wall rfl (Nat.le_refl 34) hl.1 rfl (Nat.le_of_ble_eq_true rfl) dL_law_767 hf (fun z hz => ?_)
  refine lv_aload_n X.1 X.2.1 dL_law_770 rfl (lv_at hl 2 rfl) ?_
  refine lw_rd X hX hbl hbA hS hl 1 (by omega) hL (by decide +kernel) dL_law_771 dL_law_772 dL_law_773 dL_law_774 dL_law_775 ?_
  refine lw_rd X hX hbl hbA hS hl 2 (by omega) hL (by decide +kernel) dL_law_776 dL_law_777 dL_law_778 dL_law_779 dL_law_780 ?_
  refine ln_vU2 X (MW_ad b g) hap.flip (τ2 := σ) hA (c_X10_wall l D g b τ 33 N hM (xs (i + 1)) (xs (i + 2)) (by decide)) hPM hDM hS hPC 0 rfl rfl mM_L_103 Y_X10_wall rfl (Nat.le_refl 34) hl.1 rfl (Nat.le_of_ble_eq_true rfl) dL_law_781 hf (fun w τ H locs hw hPM hDM hS hPC => ?_)
  obtain ⟨hM, hw⟩ := hw
  refine lv_icmp_eq (tgt := 937) X.1 X.2.1 dL_law_784 (by decide) (fun _ => ?_) (fun h9 => absurd (ln_oWl_one hC.1 hz hw) h9)
  exact kk N v H locs (Nat.le_succ v) ⟨σ, τ, hC, hM, hPC, hDC, hPM, hDM, hS⟩
set_option maxHeartbeats 4000000 in
set_option maxRecDepth 100000 in
theorem lw_holds (X : ln_X p room_1 s m c cL_law 4 RL D g 34) (hA : ∀ q, s.heap.size ≤ q → A q) (hX : va_X b0 L xs s s.heap) (hbl : b0 < s.heap.size) (hbA : ¬ A b0) (hap : ln_ap (CW a g) (MW b g)) (hf : cells ≤ room_1.cells ∧ slots ≤ room_1.slots) (hL : L ≤ 2048) (hi : i + 4 ≤ L) (hv9 : v < 900000) (hJ : ln_J s D g A a b N v H locs) (hl : lv_has ls 4 [(0, .ref b0), (1, .ref (a 0)), (2, .ref (b 0)), (3, .int (nI i))])
    (kk : ∀ (N1 : ln_N) (v1 : Nat) (H1 : Heap) (locs1 : List Loc), v1 ≤ v + 1 → ln_J s D g A a b N1 v1 H1 locs1 → W p l e room_1 s m args below meth c H1 locs1 cells slots Q (F0 m 937 ls [])) : W p l e room_1 s m args below meth c H locs cells slots Q (F0 m 789 ls []) := by
  obtain ⟨σ, τ, hC, hM, hPC, hDC, hPM, hDM, hS⟩ := hJ
  have hW0 := hC.1
  refine lv_aload_n X.1 X.2.1 dL_law_789 rfl (lv_at hl 1 rfl) ?_
  refine lw_rd X hX hbl hbA hS hl 1 (by omega) hL (by decide +kernel) dL_law_790 dL_law_791 dL_law_792 dL_law_793 dL_law_794 ?_
  refine ln_vU2 X (CW_ad a g) hap (τ2 := τ) hA (c_X9_holds l D g a σ 33 N v hC (xs (i + 1)) (by decide)) hPC hDC hS hPM 0 rfl rfl mM_L_104 Y_X9_holds rfl (Nat.le_refl 34) hl.1 rfl (Nat.le_of_ble_eq_true rfl) dL_law_795 hf (fun z σ H locs hz hPC hDC hS hPM => ?_)
  obtain ⟨hC, hz⟩ := hz
  refine lv_aload_n X.1 X.2.1 dL_law_798 rfl (lv_at hl 2 rfl) ?_
  refine lw_rd X hX hbl hbA hS hl 1 (by omega) hL (by decide +kernel) dL_law_799 dL_law_800 dL_law_801 dL_law_802 dL_law_803 ?_
  refine ln_vU2 X (MW_ad b g) hap.flip (τ2 := σ) hA (c_X10_holds l D g b τ 33 N hM (xs (i + 1)) (by decide)) hPM hDM hS hPC 0 rfl rfl mM_L_107 Y_X10_holds rfl (Nat.le_refl 34) hl.1 rfl (Nat.le_of_ble_eq_true rfl) dL_law_804 hf (fun w τ H locs hw hPM hDM hS hPC => ?_)
  obtain ⟨hM, hw⟩ := hw
  refine lv_icmp_eq (tgt := 937) X.1 X.2.1 dL_law_807 (by decide) (fun _ => ?_) (fun h9 => absurd (ln_oHo_one hC.1 hz hw) h9)
  exact kk N v H locs (Nat.le_succ v) ⟨σ, τ, hC, hM, hPC, hDC, hPM, hDM, hS⟩
set_option maxHeartbeats 4000000 in
set_option maxRecDepth 100000 in
theorem lw_guards (X : ln_X p room_1 s m c cL_law 4 RL D g 34) (hA : ∀ q, s.heap.size ≤ q → A q) (hX : va_X b0 L xs s s.heap) (hbl : b0 < s.heap.size) (hbA : ¬ A b0) (hap : ln_ap (CW a g) (MW b g)) (hf : cells ≤ room_1.cells ∧ slots ≤ room_1.slots) (hL : L ≤ 2048) (hi : i + 4 ≤ L) (hv9 : v < 900000) (hJ : ln_J s D g A a b N v H locs) (hl : lv_has ls 4 [(0, .ref b0), (1, .ref (a 0)), (2, .ref (b 0)), (3, .int (nI i))])
    (kk : ∀ (N1 : ln_N) (v1 : Nat) (H1 : Heap) (locs1 : List Loc), v1 ≤ v + 1 → ln_J s D g A a b N1 v1 H1 locs1 → W p l e room_1 s m args below meth c H1 locs1 cells slots Q (F0 m 937 ls [])) : W p l e room_1 s m args below meth c H locs cells slots Q (F0 m 812 ls []) := by
  obtain ⟨σ, τ, hC, hM, hPC, hDC, hPM, hDM, hS⟩ := hJ
  have hW0 := hC.1
  refine lv_aload_n X.1 X.2.1 dL_law_812 rfl (lv_at hl 1 rfl) ?_
  refine ln_vU2 X (CW_ad a g) hap (τ2 := τ) hA (c_X9_guards l D g a σ 33 N v hC (by decide)) hPC hDC hS hPM 0 rfl rfl mM_L_108 Y_X9_guards rfl (Nat.le_refl 34) hl.1 rfl (Nat.le_of_ble_eq_true rfl) dL_law_813 hf (fun z σ H locs hz hPC hDC hS hPM => ?_)
  obtain ⟨hC, hz⟩ := hz
  refine lv_aload_n X.1 X.2.1 dL_law_816 rfl (lv_at hl 2 rfl) ?_
  refine ln_vU2 X (MW_ad b g) hap.flip (τ2 := σ) hA (c_X10_guards l D g b τ 33 N hM (by decide)) hPM hDM hS hPC 0 rfl rfl mM_L_111 Y_X10_guards rfl (Nat.le_refl 34) hl.1 rfl (Nat.le_of_ble_eq_true rfl) dL_law_817 hf (fun w τ H locs hw hPM hDM hS hPC => ?_)
  obtain ⟨hM, hw⟩ := hw
  refine lv_icmp_eq (tgt := 937) X.1 X.2.1 dL_law_820 (by decide) (fun _ => ?_) (fun h9 => absurd (hz.trans hw.symm) h9)
  exact kk N v H locs (Nat.le_succ v) ⟨σ, τ, hC, hM, hPC, hDC, hPM, hDM, hS⟩
set_option maxHeartbeats 4000000 in
set_option maxRecDepth 100000 in
theorem lw_answer (X : ln_X p room_1 s m c cL_law 4 RL D g 34) (hA : ∀ q, s.heap.size ≤ q → A q) (hX : va_X b0 L xs s s.heap) (hbl : b0 < s.heap.size) (hbA : ¬ A b0) (hap : ln_ap (CW a g) (MW b g)) (hf : cells ≤ room_1.cells ∧ slots ≤ room_1.slots) (hL : L ≤ 2048) (hi : i + 4 ≤ L) (hv9 : v < 900000) (hJ : ln_J s D g A a b N v H locs) (hl : lv_has ls 4 [(0, .ref b0), (1, .ref (a 0)), (2, .ref (b 0)), (3, .int (nI i))])
    (kk : ∀ (N1 : ln_N) (v1 : Nat) (H1 : Heap) (locs1 : List Loc), v1 ≤ v + 1 → ln_J s D g A a b N1 v1 H1 locs1 → W p l e room_1 s m args below meth c H1 locs1 cells slots Q (F0 m 937 ls [])) : W p l e room_1 s m args below meth c H locs cells slots Q (F0 m 825 ls []) := by
  obtain ⟨σ, τ, hC, hM, hPC, hDC, hPM, hDM, hS⟩ := hJ
  have hW0 := hC.1
  refine lv_aload_n X.1 X.2.1 dL_law_825 rfl (lv_at hl 1 rfl) ?_
  refine lw_rd X hX hbl hbA hS hl 1 (by omega) hL (by decide +kernel) dL_law_826 dL_law_827 dL_law_828 dL_law_829 dL_law_830 ?_
  refine lw_rd X hX hbl hbA hS hl 2 (by omega) hL (by decide +kernel) dL_law_831 dL_law_832 dL_law_833 dL_law_834 dL_law_835 ?_
  refine ln_vU2 X (CW_ad a g) hap (τ2 := τ) hA (c_X9_answer l D g a σ 33 N v hC (xs (i + 1)) (xs (i + 2)) (by decide)) hPC hDC hS hPM 0 rfl rfl mM_L_112 Y_X9_answer rfl (Nat.le_refl 34) hl.1 rfl (Nat.le_of_ble_eq_true rfl) dL_law_836 hf (fun z σ H locs hz hPC hDC hS hPM => ?_)
  obtain ⟨hC, hz⟩ := hz
  refine lv_aload_n X.1 X.2.1 dL_law_839 rfl (lv_at hl 2 rfl) ?_
  refine lw_rd X hX hbl hbA hS hl 1 (by omega) hL (by decide +kernel) dL_law_840 dL_law_841 dL_law_842 dL_law_843 dL_law_844 ?_
  refine lw_rd X hX hbl hbA hS hl 2 (by omega) hL (by decide +kernel) dL_law_845 dL_law_846 dL_law_847 dL_law_848 dL_law_849 ?_
  refine ln_vU2 X (MW_ad b g) hap.flip (τ2 := σ) hA (c_X10_answer l D g b τ 33 N hM (xs (i + 1)) (xs (i + 2)) (by decide)) hPM hDM hS hPC 0 rfl rfl mM_L_115 Y_X10_answer rfl (Nat.le_refl 34) hl.1 rfl (Nat.le_of_ble_eq_true rfl) dL_law_850 hf (fun w τ H locs hw hPM hDM hS hPC => ?_)
  obtain ⟨hM, hw⟩ := hw
  refine lv_icmp_eq (tgt := 937) X.1 X.2.1 dL_law_853 (by decide) (fun _ => ?_) (fun h9 => absurd (ln_oAn_one hC.1 hz hw) h9)
  exact kk N v H locs (Nat.le_succ v) ⟨σ, τ, hC, hM, hPC, hDC, hPM, hDM, hS⟩
set_option maxHeartbeats 4000000 in
set_option maxRecDepth 100000 in
theorem lw_win (X : ln_X p room_1 s m c cL_law 4 RL D g 34) (hA : ∀ q, s.heap.size ≤ q → A q) (hX : va_X b0 L xs s s.heap) (hbl : b0 < s.heap.size) (hbA : ¬ A b0) (hap : ln_ap (CW a g) (MW b g)) (hf : cells ≤ room_1.cells ∧ slots ≤ room_1.slots) (hL : L ≤ 2048) (hi : i + 4 ≤ L) (hv9 : v < 900000) (hJ : ln_J s D g A a b N v H locs) (hl : lv_has ls 4 [(0, .ref b0), (1, .ref (a 0)), (2, .ref (b 0)), (3, .int (nI i))])
    (kk : ∀ (N1 : ln_N) (v1 : Nat) (H1 : Heap) (locs1 : List Loc), v1 ≤ v + 1 → ln_J s D g A a b N1 v1 H1 locs1 → W p l e room_1 s m args below meth c H1 locs1 cells slots Q (F0 m 937 ls [])) : W p l e room_1 s m args below meth c H locs cells slots Q (F0 m 858 ls []) := by
  obtain ⟨σ, τ, hC, hM, hPC, hDC, hPM, hDM, hS⟩ := hJ
  have hW0 := hC.1
  refine lv_aload_n X.1 X.2.1 dL_law_858 rfl (lv_at hl 1 rfl) ?_
  refine lw_rd X hX hbl hbA hS hl 1 (by omega) hL (by decide +kernel) dL_law_859 dL_law_860 dL_law_861 dL_law_862 dL_law_863 ?_
  refine lw_rd X hX hbl hbA hS hl 2 (by omega) hL (by decide +kernel) dL_law_864 dL_law_865 dL_law_866 dL_law_867 dL_law_868 ?_
  refine ln_vU2 X (CW_ad a g) hap (τ2 := τ) hA (c_X9_win l D g a σ 33 N v hC (xs (i + 1)) (xs (i + 2)) (by decide)) hPC hDC hS hPM 0 rfl rfl mM_L_116 Y_X9_win rfl (Nat.le_refl 34) hl.1 rfl (Nat.le_of_ble_eq_true rfl) dL_law_869 hf (fun z σ H locs hz hPC hDC hS hPM => ?_)
  obtain ⟨hC, hz⟩ := hz
  refine lv_aload_n X.1 X.2.1 dL_law_872 rfl (lv_at hl 2 rfl) ?_
  refine lw_rd X hX hbl hbA hS hl 1 (by omega) hL (by decide +kernel) dL_law_873 dL_law_874 dL_law_875 dL_law_876 dL_law_877 ?_
  refine lw_rd X hX hbl hbA hS hl 2 (by omega) hL (by decide +kernel) dL_law_878 dL_law_879 dL_law_880 dL_law_881 dL_law_882 ?_
  refine ln_vU2 X (MW_ad b g) hap.flip (τ2 := σ) hA (c_X10_win l D g b τ 33 N hM (xs (i + 1)) (xs (i + 2)) (by decide)) hPM hDM hS hPC 0 rfl rfl mM_L_119 Y_X10_win rfl (Nat.le_refl 34) hl.1 rfl (Nat.le_of_ble_eq_true rfl) dL_law_883 hf (fun w τ H locs hw hPM hDM hS hPC => ?_)
  obtain ⟨hM, hw⟩ := hw
  refine lv_icmp_eq (tgt := 937) X.1 X.2.1 dL_law_886 (by decide) (fun _ => ?_) (fun h9 => absurd (ln_oRS_one (b := 3) (by decide) hC.1 hz hw) h9)
  exact kk N v H locs (Nat.le_succ v) ⟨σ, τ, hC, hM, hPC, hDC, hPM, hDM, hS⟩
set_option maxHeartbeats 4000000 in
set_option maxRecDepth 100000 in
theorem lw_first (X : ln_X p room_1 s m c cL_law 4 RL D g 34) (hA : ∀ q, s.heap.size ≤ q → A q) (hX : va_X b0 L xs s s.heap) (hbl : b0 < s.heap.size) (hbA : ¬ A b0) (hap : ln_ap (CW a g) (MW b g)) (hf : cells ≤ room_1.cells ∧ slots ≤ room_1.slots) (hL : L ≤ 2048) (hi : i + 4 ≤ L) (hv9 : v < 900000) (hJ : ln_J s D g A a b N v H locs) (hl : lv_has ls 4 [(0, .ref b0), (1, .ref (a 0)), (2, .ref (b 0)), (3, .int (nI i))])
    (kk : ∀ (N1 : ln_N) (v1 : Nat) (H1 : Heap) (locs1 : List Loc), v1 ≤ v + 1 → ln_J s D g A a b N1 v1 H1 locs1 → W p l e room_1 s m args below meth c H1 locs1 cells slots Q (F0 m 937 ls [])) : W p l e room_1 s m args below meth c H locs cells slots Q (F0 m 891 ls []) := by
  obtain ⟨σ, τ, hC, hM, hPC, hDC, hPM, hDM, hS⟩ := hJ
  have hW0 := hC.1
  refine lv_aload_n X.1 X.2.1 dL_law_891 rfl (lv_at hl 1 rfl) ?_
  refine lw_rd X hX hbl hbA hS hl 1 (by omega) hL (by decide +kernel) dL_law_892 dL_law_893 dL_law_894 dL_law_895 dL_law_896 ?_
  refine lw_rd X hX hbl hbA hS hl 2 (by omega) hL (by decide +kernel) dL_law_897 dL_law_898 dL_law_899 dL_law_900 dL_law_901 ?_
  refine ln_vU2 X (CW_ad a g) hap (τ2 := τ) hA (c_X9_first l D g a σ 33 N v hC (xs (i + 1)) (xs (i + 2)) (by decide)) hPC hDC hS hPM 0 rfl rfl mM_L_120 Y_X9_first rfl (Nat.le_refl 34) hl.1 rfl (Nat.le_of_ble_eq_true rfl) dL_law_902 hf (fun z σ H locs hz hPC hDC hS hPM => ?_)
  obtain ⟨hC, hz⟩ := hz
  refine lv_aload_n X.1 X.2.1 dL_law_905 rfl (lv_at hl 2 rfl) ?_
  refine lw_rd X hX hbl hbA hS hl 1 (by omega) hL (by decide +kernel) dL_law_906 dL_law_907 dL_law_908 dL_law_909 dL_law_910 ?_
  refine lw_rd X hX hbl hbA hS hl 2 (by omega) hL (by decide +kernel) dL_law_911 dL_law_912 dL_law_913 dL_law_914 dL_law_915 ?_
  refine ln_vU2 X (MW_ad b g) hap.flip (τ2 := σ) hA (c_X10_first l D g b τ 33 N hM (xs (i + 1)) (xs (i + 2)) (by decide)) hPM hDM hS hPC 0 rfl rfl mM_L_123 Y_X10_first rfl (Nat.le_refl 34) hl.1 rfl (Nat.le_of_ble_eq_true rfl) dL_law_916 hf (fun w τ H locs hw hPM hDM hS hPC => ?_)
  obtain ⟨hM, hw⟩ := hw
  refine lv_icmp_eq (tgt := 937) X.1 X.2.1 dL_law_919 (by decide) (fun _ => ?_) (fun h9 => absurd (ln_oRS_one (b := 3) (by decide) hC.1 hz hw) h9)
  exact kk N v H locs (Nat.le_succ v) ⟨σ, τ, hC, hM, hPC, hDC, hPM, hDM, hS⟩
set_option maxHeartbeats 4000000 in
set_option maxRecDepth 100000 in
theorem lw_count (X : ln_X p room_1 s m c cL_law 4 RL D g 34) (hA : ∀ q, s.heap.size ≤ q → A q) (hX : va_X b0 L xs s s.heap) (hbl : b0 < s.heap.size) (hbA : ¬ A b0) (hap : ln_ap (CW a g) (MW b g)) (hf : cells ≤ room_1.cells ∧ slots ≤ room_1.slots) (hL : L ≤ 2048) (hi : i + 4 ≤ L) (hv9 : v < 900000) (hJ : ln_J s D g A a b N v H locs) (hl : lv_has ls 4 [(0, .ref b0), (1, .ref (a 0)), (2, .ref (b 0)), (3, .int (nI i))])
    (kk : ∀ (N1 : ln_N) (v1 : Nat) (H1 : Heap) (locs1 : List Loc), v1 ≤ v + 1 → ln_J s D g A a b N1 v1 H1 locs1 → W p l e room_1 s m args below meth c H1 locs1 cells slots Q (F0 m 937 ls [])) : W p l e room_1 s m args below meth c H locs cells slots Q (F0 m 924 ls []) := by
  obtain ⟨σ, τ, hC, hM, hPC, hDC, hPM, hDM, hS⟩ := hJ
  have hW0 := hC.1
  refine lv_aload_n X.1 X.2.1 dL_law_924 rfl (lv_at hl 1 rfl) ?_
  refine ln_vR X (c_X9_count l D g a σ 33 N v hC (by decide)) hPC 0 rfl rfl mM_L_124 Y_X9_count rfl (Nat.le_refl 34) hl.1 rfl (Nat.le_of_ble_eq_true rfl) dL_law_925 hf (fun z hz => ?_)
  refine lv_aload_n X.1 X.2.1 dL_law_928 rfl (lv_at hl 2 rfl) ?_
  refine ln_vR X (c_X10_count l D g b τ 33 N hM.1 hM.2.1 (by decide)) hPM 0 rfl rfl mM_L_127 Y_X10_count rfl (Nat.le_refl 34) hl.1 rfl (Nat.le_of_ble_eq_true rfl) dL_law_929 hf (fun w hw => ?_)
  refine lv_icmp_eq (tgt := 937) X.1 X.2.1 dL_law_932 (by decide) (fun _ => ?_) (fun h9 => absurd (hz.trans hw.symm) h9)
  exact kk N v H locs (Nat.le_succ v) ⟨σ, τ, hC, hM, hPC, hDC, hPM, hDM, hS⟩
end LNC9
