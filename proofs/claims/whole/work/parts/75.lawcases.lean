/-! THE LAW, a step of each kind; printed by wip/gen/law.py -/
/-- what stands behind a step of the script -/
def lwN (p : Program) (l : Launch) (e : Env) (s : State) (m : MethodId) (below : List Frame) (meth : Method) (c : Code) (D : va_G) (b : Nat) (Q : State → Prop) (a0 a1 i K S : Nat) : Prop := ∀ (ad : Nat → Nat) (σ : Xs) (o : Ob) (H : Heap) (locs : List Loc) (ls : Array Slot) (K' S' : Nat), hw D s.heap.size ad (celP D ad σ (obP D ad 256 6 shMod o nov)) H → Rs σ o → ad 0 = a0 → ad 256 = a1 → K' ≤ K + 3 → S' ≤ S + 52 → va_S (fun q => s.heap.size ≤ q) s.heap H locs → lv_has ls 4 [(0, .ref b), (1, .ref a0), (2, .ref a1), (3, .int (nI i))] → W p l e room_1 s m #[Value.ref b] below meth c H locs K' S' Q (F0 m 923 ls [])
section LAW
variable {p : Program} {l : Launch} {e : Env} {s : State} {m : MethodId} {below : List Frame} {meth : Method} {c : Code} {D : va_G} {b L : Nat} {xs : Nat → Int32} {Q : State → Prop} {ad : Nat → Nat} {σ : Xs} {o : Ob} {H : Heap} {locs : List Loc} {ls : Array Slot} {i K S : Nat}
set_option maxHeartbeats 1000000 in
theorem law_density (F : fx p m c code 4 s #[Value.ref b] R_Law D) (hX : va_X b L xs s s.heap) (hbl : b < s.heap.size) (hLL : L ≤ 2562) (hi : i + 5 ≤ L) (hK : K + 3 ≤ 600000) (hSl : S + 52 ≤ 7302250) (hRs : Rs σ o) (hH : hw D s.heap.size ad (celP D ad σ (obP D ad 256 6 shMod o nov)) H) (hS : va_S (fun q => s.heap.size ≤ q) s.heap H locs) (hl : lv_has ls 4 [(0, .ref b), (1, .ref (ad 0)), (2, .ref (ad 256)), (3, .int (nI i))]) (NX : lwN p l e s m below meth c D b Q (ad 0) (ad 256) i K S) : W p l e room_1 s m #[Value.ref b] below meth c H locs K S Q (F0 m 148 ls []) := by
  have hbA : ¬ (fun q => s.heap.size ≤ q) b := Nat.not_le.mpr hbl
  have hL := Nat.le_refl s.heap.size
  have hXo := xOK_of hRs.1.1 hRs.1.2.1
  refine lv_aload_n F.1.1 F.1.2.1 d_law_148 rfl (lv_at hl 1 rfl) ?_
  refine lv_aload_n F.1.1 F.1.2.1 d_law_149 rfl (lv_at hl 0 rfl) ?_
  refine lv_iload_n F.1.1 F.1.2.1 d_law_150 rfl (lv_at hl 3 rfl) ?_
  refine lv_iconst (v := 1) F.1.1 F.1.2.1 d_law_151 (by decide) ?_
  refine lv_iadd F.1.1 F.1.2.1 d_law_152 ?_
  refine va_sld F.1.1 F.1.2.1 hX hbl hbA hS (sx (k := 1) (by omega) hLL) d_law_153 ?_
  refine lv_aload_n F.1.1 F.1.2.1 d_law_154 rfl (lv_at hl 0 rfl) ?_
  refine lv_iload_n F.1.1 F.1.2.1 d_law_155 rfl (lv_at hl 3 rfl) ?_
  refine lv_iconst (v := 2) F.1.1 F.1.2.1 d_law_156 (by decide) ?_
  refine lv_iadd F.1.1 F.1.2.1 d_law_157 ?_
  refine va_sld F.1.1 F.1.2.1 hX hbl hbA hS (sx (k := 2) (by omega) hLL) d_law_158 ?_
  refine hw_call1 (hw_runV F hL hS hH hl (c_Cel_density l D s.heap.size ad σ (obP D ad 256 6 shMod o nov) hXo _ _) ck_Cel (hasO_o celE) rfl q_ml_Law_21 q_im_Cel_density q_se_Cel_density q_in_Cel q_co_Cel_density rfl (k := 2) ⟨rfl, rfl, by decide +kernel, ⟨Nat.le_of_ble_eq_true rfl, Nat.le_of_ble_eq_true rfl⟩, Nat.le_of_ble_eq_true rfl⟩ rfl d_law_159 ⟨by show _ ≤ 600000; omega, by show _ ≤ 7302250; omega⟩) hS (fun H locs hH hS => ?_)
  refine lv_aload_n F.1.1 F.1.2.1 d_law_162 rfl (lv_at hl 2 rfl) ?_
  refine lv_aload_n F.1.1 F.1.2.1 d_law_163 rfl (lv_at hl 0 rfl) ?_
  refine lv_iload_n F.1.1 F.1.2.1 d_law_164 rfl (lv_at hl 3 rfl) ?_
  refine lv_iconst (v := 1) F.1.1 F.1.2.1 d_law_165 (by decide) ?_
  refine lv_iadd F.1.1 F.1.2.1 d_law_166 ?_
  refine va_sld F.1.1 F.1.2.1 hX hbl hbA hS (sx (k := 1) (by omega) hLL) d_law_167 ?_
  refine lv_aload_n F.1.1 F.1.2.1 d_law_168 rfl (lv_at hl 0 rfl) ?_
  refine lv_iload_n F.1.1 F.1.2.1 d_law_169 rfl (lv_at hl 3 rfl) ?_
  refine lv_iconst (v := 2) F.1.1 F.1.2.1 d_law_170 (by decide) ?_
  refine lv_iadd F.1.1 F.1.2.1 d_law_171 ?_
  refine va_sld F.1.1 F.1.2.1 hX hbl hbA hS (sx (k := 2) (by omega) hLL) d_law_172 ?_
  refine hw_call1 (hw_runV F hL hS hH hl (c_Mod_density l D s.heap.size ad 256 o _ cel_hM σ hRs.1 hRs.2.1 hRs.2.2.1 _ _) ck_Mod (hasO_o cel_hM) rfl q_ml_Law_25 q_im_Mod_density q_se_Mod_density q_in_Mod q_co_Mod_density rfl (k := 2) ⟨rfl, rfl, by decide +kernel, ⟨Nat.le_of_ble_eq_true rfl, Nat.le_of_ble_eq_true rfl⟩, Nat.le_of_ble_eq_true rfl⟩ rfl d_law_173 ⟨by show _ ≤ 600000; omega, by show _ ≤ 7302250; omega⟩) hS (fun H locs hH hS => ?_)
  replace hH := hH.to cel_MM
  refine lv_icmp_eq (tgt := 923) F.1.1 F.1.2.1 d_law_176 (by decide) (fun ce => ?_) (fun cn => ?_)
  · exact NX ad _ _ H locs ls K S hH (st_density hRs) rfl rfl (by omega) (by omega) hS hl
  · exact absurd rfl cn
set_option maxHeartbeats 1000000 in
theorem law_row (F : fx p m c code 4 s #[Value.ref b] R_Law D) (hX : va_X b L xs s s.heap) (hbl : b < s.heap.size) (hLL : L ≤ 2562) (hi : i + 5 ≤ L) (hK : K + 3 ≤ 600000) (hSl : S + 52 ≤ 7302250) (hRs : Rs σ o) (hH : hw D s.heap.size ad (celP D ad σ (obP D ad 256 6 shMod o nov)) H) (hS : va_S (fun q => s.heap.size ≤ q) s.heap H locs) (hl : lv_has ls 4 [(0, .ref b), (1, .ref (ad 0)), (2, .ref (ad 256)), (3, .int (nI i))]) (NX : lwN p l e s m below meth c D b Q (ad 0) (ad 256) i K S) : W p l e room_1 s m #[Value.ref b] below meth c H locs K S Q (F0 m 181 ls []) := by
  have hbA : ¬ (fun q => s.heap.size ≤ q) b := Nat.not_le.mpr hbl
  have hL := Nat.le_refl s.heap.size
  have hXo := xOK_of hRs.1.1 hRs.1.2.1
  refine lv_aload_n F.1.1 F.1.2.1 d_law_181 rfl (lv_at hl 1 rfl) ?_
  refine lv_aload_n F.1.1 F.1.2.1 d_law_182 rfl (lv_at hl 0 rfl) ?_
  refine lv_iload_n F.1.1 F.1.2.1 d_law_183 rfl (lv_at hl 3 rfl) ?_
  refine lv_iconst (v := 1) F.1.1 F.1.2.1 d_law_184 (by decide) ?_
  refine lv_iadd F.1.1 F.1.2.1 d_law_185 ?_
  refine va_sld F.1.1 F.1.2.1 hX hbl hbA hS (sx (k := 1) (by omega) hLL) d_law_186 ?_
  refine lv_aload_n F.1.1 F.1.2.1 d_law_187 rfl (lv_at hl 0 rfl) ?_
  refine lv_iload_n F.1.1 F.1.2.1 d_law_188 rfl (lv_at hl 3 rfl) ?_
  refine lv_iconst (v := 2) F.1.1 F.1.2.1 d_law_189 (by decide) ?_
  refine lv_iadd F.1.1 F.1.2.1 d_law_190 ?_
  refine va_sld F.1.1 F.1.2.1 hX hbl hbA hS (sx (k := 2) (by omega) hLL) d_law_191 ?_
  refine lv_i2l F.1.1 F.1.2.1 d_law_192 rfl ?_
  refine lv_bipush (v := 32) F.1.1 F.1.2.1 d_law_193 (by decide) ?_
  refine lv_lshl F.1.1 F.1.2.1 d_law_195 rfl ?_
  refine lv_aload_n F.1.1 F.1.2.1 d_law_196 rfl (lv_at hl 0 rfl) ?_
  refine lv_iload_n F.1.1 F.1.2.1 d_law_197 rfl (lv_at hl 3 rfl) ?_
  refine lv_iconst (v := 3) F.1.1 F.1.2.1 d_law_198 (by decide) ?_
  refine lv_iadd F.1.1 F.1.2.1 d_law_199 ?_
  refine va_sld F.1.1 F.1.2.1 hX hbl hbA hS (sx (k := 3) (by omega) hLL) d_law_200 ?_
  refine lv_i2l F.1.1 F.1.2.1 d_law_201 rfl ?_
  refine lv_ldc2 F.1.1 F.1.2.1 F.1.2.2.2.1 (F.1.2.2.2.2 _ q_cl_Law_26) d_law_202 ?_
  refine lv_land F.1.1 F.1.2.1 d_law_205 ?_
  refine lv_lor F.1.1 F.1.2.1 d_law_206 ?_
  refine lv_aload_n F.1.1 F.1.2.1 d_law_207 rfl (lv_at hl 0 rfl) ?_
  refine lv_iload_n F.1.1 F.1.2.1 d_law_208 rfl (lv_at hl 3 rfl) ?_
  refine lv_iconst (v := 4) F.1.1 F.1.2.1 d_law_209 (by decide) ?_
  refine lv_iadd F.1.1 F.1.2.1 d_law_210 ?_
  refine va_sld F.1.1 F.1.2.1 hX hbl hbA hS (sx (k := 4) (by omega) hLL) d_law_211 ?_
  refine hw_call1 (hw_runV F hL hS hH hl (c_Cel_row l D s.heap.size ad σ (obP D ad 256 6 shMod o nov) hRs.1 _ _ _) ck_Cel (hasO_o celE) rfl q_ml_Law_28 q_im_Cel_row q_se_Cel_row q_in_Cel q_co_Cel_row rfl (k := 3) ⟨rfl, rfl, by decide +kernel, ⟨Nat.le_of_ble_eq_true rfl, Nat.le_of_ble_eq_true rfl⟩, Nat.le_of_ble_eq_true rfl⟩ rfl d_law_212 ⟨by show _ ≤ 600000; omega, by show _ ≤ 7302250; omega⟩) hS (fun H locs hH hS => ?_)
  refine lv_aload_n F.1.1 F.1.2.1 d_law_215 rfl (lv_at hl 2 rfl) ?_
  refine lv_aload_n F.1.1 F.1.2.1 d_law_216 rfl (lv_at hl 0 rfl) ?_
  refine lv_iload_n F.1.1 F.1.2.1 d_law_217 rfl (lv_at hl 3 rfl) ?_
  refine lv_iconst (v := 1) F.1.1 F.1.2.1 d_law_218 (by decide) ?_
  refine lv_iadd F.1.1 F.1.2.1 d_law_219 ?_
  refine va_sld F.1.1 F.1.2.1 hX hbl hbA hS (sx (k := 1) (by omega) hLL) d_law_220 ?_
  refine lv_aload_n F.1.1 F.1.2.1 d_law_221 rfl (lv_at hl 0 rfl) ?_
  refine lv_iload_n F.1.1 F.1.2.1 d_law_222 rfl (lv_at hl 3 rfl) ?_
  refine lv_iconst (v := 2) F.1.1 F.1.2.1 d_law_223 (by decide) ?_
  refine lv_iadd F.1.1 F.1.2.1 d_law_224 ?_
  refine va_sld F.1.1 F.1.2.1 hX hbl hbA hS (sx (k := 2) (by omega) hLL) d_law_225 ?_
  refine lv_i2l F.1.1 F.1.2.1 d_law_226 rfl ?_
  refine lv_bipush (v := 32) F.1.1 F.1.2.1 d_law_227 (by decide) ?_
  refine lv_lshl F.1.1 F.1.2.1 d_law_229 rfl ?_
  refine lv_aload_n F.1.1 F.1.2.1 d_law_230 rfl (lv_at hl 0 rfl) ?_
  refine lv_iload_n F.1.1 F.1.2.1 d_law_231 rfl (lv_at hl 3 rfl) ?_
  refine lv_iconst (v := 3) F.1.1 F.1.2.1 d_law_232 (by decide) ?_
  refine lv_iadd F.1.1 F.1.2.1 d_law_233 ?_
  refine va_sld F.1.1 F.1.2.1 hX hbl hbA hS (sx (k := 3) (by omega) hLL) d_law_234 ?_
  refine lv_i2l F.1.1 F.1.2.1 d_law_235 rfl ?_
  refine lv_ldc2 F.1.1 F.1.2.1 F.1.2.2.2.1 (F.1.2.2.2.2 _ q_cl_Law_26) d_law_236 ?_
  refine lv_land F.1.1 F.1.2.1 d_law_239 ?_
  refine lv_lor F.1.1 F.1.2.1 d_law_240 ?_
  refine lv_aload_n F.1.1 F.1.2.1 d_law_241 rfl (lv_at hl 0 rfl) ?_
  refine lv_iload_n F.1.1 F.1.2.1 d_law_242 rfl (lv_at hl 3 rfl) ?_
  refine lv_iconst (v := 4) F.1.1 F.1.2.1 d_law_243 (by decide) ?_
  refine lv_iadd F.1.1 F.1.2.1 d_law_244 ?_
  refine va_sld F.1.1 F.1.2.1 hX hbl hbA hS (sx (k := 4) (by omega) hLL) d_law_245 ?_
  refine hw_call1 (hw_runV F hL hS hH hl (c_Mod_row l D s.heap.size ad 256 o _ cel_hM σ hRs.1 hRs.2.1 hRs.2.2.1 _ _ _) ck_Mod (hasO_o cel_hM) rfl q_ml_Law_32 q_im_Mod_row q_se_Mod_row q_in_Mod q_co_Mod_row rfl (k := 3) ⟨rfl, rfl, by decide +kernel, ⟨Nat.le_of_ble_eq_true rfl, Nat.le_of_ble_eq_true rfl⟩, Nat.le_of_ble_eq_true rfl⟩ rfl d_law_246 ⟨by show _ ≤ 600000; omega, by show _ ≤ 7302250; omega⟩) hS (fun H locs hH hS => ?_)
  replace hH := hH.to cel_MM
  refine lv_icmp_eq (tgt := 923) F.1.1 F.1.2.1 d_law_249 (by decide) (fun ce => ?_) (fun cn => ?_)
  · exact NX ad _ _ H locs ls K S hH (st_row hRs) rfl rfl (by omega) (by omega) hS hl
  · exact absurd rfl cn
set_option maxHeartbeats 1000000 in
theorem law_layer (F : fx p m c code 4 s #[Value.ref b] R_Law D) (hX : va_X b L xs s s.heap) (hbl : b < s.heap.size) (hLL : L ≤ 2562) (hi : i + 5 ≤ L) (hK : K + 3 ≤ 600000) (hSl : S + 52 ≤ 7302250) (hRs : Rs σ o) (hH : hw D s.heap.size ad (celP D ad σ (obP D ad 256 6 shMod o nov)) H) (hS : va_S (fun q => s.heap.size ≤ q) s.heap H locs) (hl : lv_has ls 4 [(0, .ref b), (1, .ref (ad 0)), (2, .ref (ad 256)), (3, .int (nI i))]) (NX : lwN p l e s m below meth c D b Q (ad 0) (ad 256) i K S) : W p l e room_1 s m #[Value.ref b] below meth c H locs K S Q (F0 m 254 ls []) := by
  have hbA : ¬ (fun q => s.heap.size ≤ q) b := Nat.not_le.mpr hbl
  have hL := Nat.le_refl s.heap.size
  have hXo := xOK_of hRs.1.1 hRs.1.2.1
  refine lv_aload_n F.1.1 F.1.2.1 d_law_254 rfl (lv_at hl 1 rfl) ?_
  refine lv_aload_n F.1.1 F.1.2.1 d_law_255 rfl (lv_at hl 0 rfl) ?_
  refine lv_iload_n F.1.1 F.1.2.1 d_law_256 rfl (lv_at hl 3 rfl) ?_
  refine lv_iconst (v := 1) F.1.1 F.1.2.1 d_law_257 (by decide) ?_
  refine lv_iadd F.1.1 F.1.2.1 d_law_258 ?_
  refine va_sld F.1.1 F.1.2.1 hX hbl hbA hS (sx (k := 1) (by omega) hLL) d_law_259 ?_
  refine lv_aload_n F.1.1 F.1.2.1 d_law_260 rfl (lv_at hl 0 rfl) ?_
  refine lv_iload_n F.1.1 F.1.2.1 d_law_261 rfl (lv_at hl 3 rfl) ?_
  refine lv_iconst (v := 2) F.1.1 F.1.2.1 d_law_262 (by decide) ?_
  refine lv_iadd F.1.1 F.1.2.1 d_law_263 ?_
  refine va_sld F.1.1 F.1.2.1 hX hbl hbA hS (sx (k := 2) (by omega) hLL) d_law_264 ?_
  refine lv_aload_n F.1.1 F.1.2.1 d_law_265 rfl (lv_at hl 0 rfl) ?_
  refine lv_iload_n F.1.1 F.1.2.1 d_law_266 rfl (lv_at hl 3 rfl) ?_
  refine lv_iconst (v := 3) F.1.1 F.1.2.1 d_law_267 (by decide) ?_
  refine lv_iadd F.1.1 F.1.2.1 d_law_268 ?_
  refine va_sld F.1.1 F.1.2.1 hX hbl hbA hS (sx (k := 3) (by omega) hLL) d_law_269 ?_
  refine lv_i2l F.1.1 F.1.2.1 d_law_270 rfl ?_
  refine lv_bipush (v := 32) F.1.1 F.1.2.1 d_law_271 (by decide) ?_
  refine lv_lshl F.1.1 F.1.2.1 d_law_273 rfl ?_
  refine lv_aload_n F.1.1 F.1.2.1 d_law_274 rfl (lv_at hl 0 rfl) ?_
  refine lv_iload_n F.1.1 F.1.2.1 d_law_275 rfl (lv_at hl 3 rfl) ?_
  refine lv_iconst (v := 4) F.1.1 F.1.2.1 d_law_276 (by decide) ?_
  refine lv_iadd F.1.1 F.1.2.1 d_law_277 ?_
  refine va_sld F.1.1 F.1.2.1 hX hbl hbA hS (sx (k := 4) (by omega) hLL) d_law_278 ?_
  refine lv_i2l F.1.1 F.1.2.1 d_law_279 rfl ?_
  refine lv_ldc2 F.1.1 F.1.2.1 F.1.2.2.2.1 (F.1.2.2.2.2 _ q_cl_Law_26) d_law_280 ?_
  refine lv_land F.1.1 F.1.2.1 d_law_283 ?_
  refine lv_lor F.1.1 F.1.2.1 d_law_284 ?_
  refine hw_call1 (hw_runV F hL hS hH hl (c_Cel_layer l D s.heap.size ad σ (obP D ad 256 6 shMod o nov) hRs.1 _ _ _) ck_Cel (hasO_o celE) rfl q_ml_Law_33 q_im_Cel_layer q_se_Cel_layer q_in_Cel q_co_Cel_layer rfl (k := 3) ⟨rfl, rfl, by decide +kernel, ⟨Nat.le_of_ble_eq_true rfl, Nat.le_of_ble_eq_true rfl⟩, Nat.le_of_ble_eq_true rfl⟩ rfl d_law_285 ⟨by show _ ≤ 600000; omega, by show _ ≤ 7302250; omega⟩) hS (fun H locs hH hS => ?_)
  refine lv_aload_n F.1.1 F.1.2.1 d_law_288 rfl (lv_at hl 2 rfl) ?_
  refine lv_aload_n F.1.1 F.1.2.1 d_law_289 rfl (lv_at hl 0 rfl) ?_
  refine lv_iload_n F.1.1 F.1.2.1 d_law_290 rfl (lv_at hl 3 rfl) ?_
  refine lv_iconst (v := 1) F.1.1 F.1.2.1 d_law_291 (by decide) ?_
  refine lv_iadd F.1.1 F.1.2.1 d_law_292 ?_
  refine va_sld F.1.1 F.1.2.1 hX hbl hbA hS (sx (k := 1) (by omega) hLL) d_law_293 ?_
  refine lv_aload_n F.1.1 F.1.2.1 d_law_294 rfl (lv_at hl 0 rfl) ?_
  refine lv_iload_n F.1.1 F.1.2.1 d_law_295 rfl (lv_at hl 3 rfl) ?_
  refine lv_iconst (v := 2) F.1.1 F.1.2.1 d_law_296 (by decide) ?_
  refine lv_iadd F.1.1 F.1.2.1 d_law_297 ?_
  refine va_sld F.1.1 F.1.2.1 hX hbl hbA hS (sx (k := 2) (by omega) hLL) d_law_298 ?_
  refine lv_aload_n F.1.1 F.1.2.1 d_law_299 rfl (lv_at hl 0 rfl) ?_
  refine lv_iload_n F.1.1 F.1.2.1 d_law_300 rfl (lv_at hl 3 rfl) ?_
  refine lv_iconst (v := 3) F.1.1 F.1.2.1 d_law_301 (by decide) ?_
  refine lv_iadd F.1.1 F.1.2.1 d_law_302 ?_
  refine va_sld F.1.1 F.1.2.1 hX hbl hbA hS (sx (k := 3) (by omega) hLL) d_law_303 ?_
  refine lv_i2l F.1.1 F.1.2.1 d_law_304 rfl ?_
  refine lv_bipush (v := 32) F.1.1 F.1.2.1 d_law_305 (by decide) ?_
  refine lv_lshl F.1.1 F.1.2.1 d_law_307 rfl ?_
  refine lv_aload_n F.1.1 F.1.2.1 d_law_308 rfl (lv_at hl 0 rfl) ?_
  refine lv_iload_n F.1.1 F.1.2.1 d_law_309 rfl (lv_at hl 3 rfl) ?_
  refine lv_iconst (v := 4) F.1.1 F.1.2.1 d_law_310 (by decide) ?_
  refine lv_iadd F.1.1 F.1.2.1 d_law_311 ?_
  refine va_sld F.1.1 F.1.2.1 hX hbl hbA hS (sx (k := 4) (by omega) hLL) d_law_312 ?_
  refine lv_i2l F.1.1 F.1.2.1 d_law_313 rfl ?_
  refine lv_ldc2 F.1.1 F.1.2.1 F.1.2.2.2.1 (F.1.2.2.2.2 _ q_cl_Law_26) d_law_314 ?_
  refine lv_land F.1.1 F.1.2.1 d_law_317 ?_
  refine lv_lor F.1.1 F.1.2.1 d_law_318 ?_
  refine hw_call1 (hw_runV F hL hS hH hl (c_Mod_layer l D s.heap.size ad 256 o _ cel_hM σ hRs.1 hRs.2.1 hRs.2.2.1 _ _ _) ck_Mod (hasO_o cel_hM) rfl q_ml_Law_37 q_im_Mod_layer q_se_Mod_layer q_in_Mod q_co_Mod_layer rfl (k := 3) ⟨rfl, rfl, by decide +kernel, ⟨Nat.le_of_ble_eq_true rfl, Nat.le_of_ble_eq_true rfl⟩, Nat.le_of_ble_eq_true rfl⟩ rfl d_law_319 ⟨by show _ ≤ 600000; omega, by show _ ≤ 7302250; omega⟩) hS (fun H locs hH hS => ?_)
  replace hH := hH.to cel_MM
  refine lv_icmp_eq (tgt := 923) F.1.1 F.1.2.1 d_law_322 (by decide) (fun ce => ?_) (fun cn => ?_)
  · exact NX ad _ _ H locs ls K S hH (st_layer hRs) rfl rfl (by omega) (by omega) hS hl
  · exact absurd rfl cn
set_option maxHeartbeats 1000000 in
theorem law_roll (F : fx p m c code 4 s #[Value.ref b] R_Law D) (hX : va_X b L xs s s.heap) (hbl : b < s.heap.size) (hLL : L ≤ 2562) (hi : i + 5 ≤ L) (hK : K + 3 ≤ 600000) (hSl : S + 52 ≤ 7302250) (hRs : Rs σ o) (hH : hw D s.heap.size ad (celP D ad σ (obP D ad 256 6 shMod o nov)) H) (hS : va_S (fun q => s.heap.size ≤ q) s.heap H locs) (hl : lv_has ls 4 [(0, .ref b), (1, .ref (ad 0)), (2, .ref (ad 256)), (3, .int (nI i))]) (NX : lwN p l e s m below meth c D b Q (ad 0) (ad 256) i K S) : W p l e room_1 s m #[Value.ref b] below meth c H locs K S Q (F0 m 327 ls []) := by
  have hbA : ¬ (fun q => s.heap.size ≤ q) b := Nat.not_le.mpr hbl
  have hL := Nat.le_refl s.heap.size
  have hXo := xOK_of hRs.1.1 hRs.1.2.1
  refine lv_aload_n F.1.1 F.1.2.1 d_law_327 rfl (lv_at hl 1 rfl) ?_
  refine lv_aload_n F.1.1 F.1.2.1 d_law_328 rfl (lv_at hl 0 rfl) ?_
  refine lv_iload_n F.1.1 F.1.2.1 d_law_329 rfl (lv_at hl 3 rfl) ?_
  refine lv_iconst (v := 1) F.1.1 F.1.2.1 d_law_330 (by decide) ?_
  refine lv_iadd F.1.1 F.1.2.1 d_law_331 ?_
  refine va_sld F.1.1 F.1.2.1 hX hbl hbA hS (sx (k := 1) (by omega) hLL) d_law_332 ?_
  refine lv_aload_n F.1.1 F.1.2.1 d_law_333 rfl (lv_at hl 0 rfl) ?_
  refine lv_iload_n F.1.1 F.1.2.1 d_law_334 rfl (lv_at hl 3 rfl) ?_
  refine lv_iconst (v := 2) F.1.1 F.1.2.1 d_law_335 (by decide) ?_
  refine lv_iadd F.1.1 F.1.2.1 d_law_336 ?_
  refine va_sld F.1.1 F.1.2.1 hX hbl hbA hS (sx (k := 2) (by omega) hLL) d_law_337 ?_
  refine hw_call1 (hw_runV F hL hS hH hl (c_Cel_roll l D s.heap.size ad σ (obP D ad 256 6 shMod o nov) hRs.1 _ _) ck_Cel (hasO_o celE) rfl q_ml_Law_38 q_im_Cel_roll q_se_Cel_roll q_in_Cel q_co_Cel_roll rfl (k := 2) ⟨rfl, rfl, by decide +kernel, ⟨Nat.le_of_ble_eq_true rfl, Nat.le_of_ble_eq_true rfl⟩, Nat.le_of_ble_eq_true rfl⟩ rfl d_law_338 ⟨by show _ ≤ 600000; omega, by show _ ≤ 7302250; omega⟩) hS (fun H locs hH hS => ?_)
  refine lv_aload_n F.1.1 F.1.2.1 d_law_341 rfl (lv_at hl 2 rfl) ?_
  refine lv_aload_n F.1.1 F.1.2.1 d_law_342 rfl (lv_at hl 0 rfl) ?_
  refine lv_iload_n F.1.1 F.1.2.1 d_law_343 rfl (lv_at hl 3 rfl) ?_
  refine lv_iconst (v := 1) F.1.1 F.1.2.1 d_law_344 (by decide) ?_
  refine lv_iadd F.1.1 F.1.2.1 d_law_345 ?_
  refine va_sld F.1.1 F.1.2.1 hX hbl hbA hS (sx (k := 1) (by omega) hLL) d_law_346 ?_
  refine lv_aload_n F.1.1 F.1.2.1 d_law_347 rfl (lv_at hl 0 rfl) ?_
  refine lv_iload_n F.1.1 F.1.2.1 d_law_348 rfl (lv_at hl 3 rfl) ?_
  refine lv_iconst (v := 2) F.1.1 F.1.2.1 d_law_349 (by decide) ?_
  refine lv_iadd F.1.1 F.1.2.1 d_law_350 ?_
  refine va_sld F.1.1 F.1.2.1 hX hbl hbA hS (sx (k := 2) (by omega) hLL) d_law_351 ?_
  refine hw_call1 (hw_runV F hL hS hH hl (c_Mod_roll l D s.heap.size ad 256 o _ cel_hM σ hRs.1 hRs.2.1 hRs.2.2.1 _ _) ck_Mod (hasO_o cel_hM) rfl q_ml_Law_41 q_im_Mod_roll q_se_Mod_roll q_in_Mod q_co_Mod_roll rfl (k := 2) ⟨rfl, rfl, by decide +kernel, ⟨Nat.le_of_ble_eq_true rfl, Nat.le_of_ble_eq_true rfl⟩, Nat.le_of_ble_eq_true rfl⟩ rfl d_law_352 ⟨by show _ ≤ 600000; omega, by show _ ≤ 7302250; omega⟩) hS (fun H locs hH hS => ?_)
  replace hH := hH.to cel_MM
  refine lv_icmp_eq (tgt := 923) F.1.1 F.1.2.1 d_law_355 (by decide) (fun ce => ?_) (fun cn => ?_)
  · exact NX ad _ _ H locs ls K S hH (st_roll hRs) rfl rfl (by omega) (by omega) hS hl
  · exact absurd rfl cn
set_option maxHeartbeats 1000000 in
theorem law_run (F : fx p m c code 4 s #[Value.ref b] R_Law D) (hX : va_X b L xs s s.heap) (hbl : b < s.heap.size) (hLL : L ≤ 2562) (hi : i + 5 ≤ L) (hK : K + 3 ≤ 600000) (hSl : S + 52 ≤ 7302250) (hRs : Rs σ o) (hH : hw D s.heap.size ad (celP D ad σ (obP D ad 256 6 shMod o nov)) H) (hS : va_S (fun q => s.heap.size ≤ q) s.heap H locs) (hl : lv_has ls 4 [(0, .ref b), (1, .ref (ad 0)), (2, .ref (ad 256)), (3, .int (nI i))]) (NX : lwN p l e s m below meth c D b Q (ad 0) (ad 256) i K S) : W p l e room_1 s m #[Value.ref b] below meth c H locs K S Q (F0 m 360 ls []) := by
  have hbA : ¬ (fun q => s.heap.size ≤ q) b := Nat.not_le.mpr hbl
  have hL := Nat.le_refl s.heap.size
  have hXo := xOK_of hRs.1.1 hRs.1.2.1
  refine lv_aload_n F.1.1 F.1.2.1 d_law_360 rfl (lv_at hl 1 rfl) ?_
  refine lv_aload_n F.1.1 F.1.2.1 d_law_361 rfl (lv_at hl 0 rfl) ?_
  refine lv_iload_n F.1.1 F.1.2.1 d_law_362 rfl (lv_at hl 3 rfl) ?_
  refine lv_iconst (v := 1) F.1.1 F.1.2.1 d_law_363 (by decide) ?_
  refine lv_iadd F.1.1 F.1.2.1 d_law_364 ?_
  refine va_sld F.1.1 F.1.2.1 hX hbl hbA hS (sx (k := 1) (by omega) hLL) d_law_365 ?_
  refine hw_call1 (hw_runV F hL hS hH hl (c_Cel_run l D s.heap.size ad σ (obP D ad 256 6 shMod o nov) hRs.1 _) ck_Cel (hasO_o celE) rfl q_ml_Law_42 q_im_Cel_run q_se_Cel_run q_in_Cel q_co_Cel_run rfl (k := 1) ⟨rfl, rfl, by decide +kernel, ⟨Nat.le_of_ble_eq_true rfl, Nat.le_of_ble_eq_true rfl⟩, Nat.le_of_ble_eq_true rfl⟩ rfl d_law_366 ⟨by show _ ≤ 600000; omega, by show _ ≤ 7302250; omega⟩) hS (fun H locs hH hS => ?_)
  refine lv_aload_n F.1.1 F.1.2.1 d_law_369 rfl (lv_at hl 2 rfl) ?_
  refine lv_aload_n F.1.1 F.1.2.1 d_law_370 rfl (lv_at hl 0 rfl) ?_
  refine lv_iload_n F.1.1 F.1.2.1 d_law_371 rfl (lv_at hl 3 rfl) ?_
  refine lv_iconst (v := 1) F.1.1 F.1.2.1 d_law_372 (by decide) ?_
  refine lv_iadd F.1.1 F.1.2.1 d_law_373 ?_
  refine va_sld F.1.1 F.1.2.1 hX hbl hbA hS (sx (k := 1) (by omega) hLL) d_law_374 ?_
  refine hw_call1 (hw_runV F hL hS hH hl (c_Mod_run l D s.heap.size ad 256 o _ cel_hM σ hRs.1 hRs.2.1 hRs.2.2.1 _) ck_Mod (hasO_o cel_hM) rfl q_ml_Law_46 q_im_Mod_run q_se_Mod_run q_in_Mod q_co_Mod_run rfl (k := 1) ⟨rfl, rfl, by decide +kernel, ⟨Nat.le_of_ble_eq_true rfl, Nat.le_of_ble_eq_true rfl⟩, Nat.le_of_ble_eq_true rfl⟩ rfl d_law_375 ⟨by show _ ≤ 600000; omega, by show _ ≤ 7302250; omega⟩) hS (fun H locs hH hS => ?_)
  replace hH := hH.to cel_MM
  refine lv_icmp_eq (tgt := 923) F.1.1 F.1.2.1 d_law_378 (by decide) (fun ce => ?_) (fun cn => ?_)
  · exact NX ad _ _ H locs ls K S hH (st_run hRs) rfl rfl (by omega) (by omega) hS hl
  · exact absurd rfl cn
set_option maxHeartbeats 1000000 in
theorem law_cover (F : fx p m c code 4 s #[Value.ref b] R_Law D) (hX : va_X b L xs s s.heap) (hbl : b < s.heap.size) (hLL : L ≤ 2562) (hi : i + 5 ≤ L) (hK : K + 3 ≤ 600000) (hSl : S + 52 ≤ 7302250) (hRs : Rs σ o) (hH : hw D s.heap.size ad (celP D ad σ (obP D ad 256 6 shMod o nov)) H) (hS : va_S (fun q => s.heap.size ≤ q) s.heap H locs) (hl : lv_has ls 4 [(0, .ref b), (1, .ref (ad 0)), (2, .ref (ad 256)), (3, .int (nI i))]) (NX : lwN p l e s m below meth c D b Q (ad 0) (ad 256) i K S) : W p l e room_1 s m #[Value.ref b] below meth c H locs K S Q (F0 m 383 ls []) := by
  have hbA : ¬ (fun q => s.heap.size ≤ q) b := Nat.not_le.mpr hbl
  have hL := Nat.le_refl s.heap.size
  have hXo := xOK_of hRs.1.1 hRs.1.2.1
  refine lv_aload_n F.1.1 F.1.2.1 d_law_383 rfl (lv_at hl 1 rfl) ?_
  refine lv_aload_n F.1.1 F.1.2.1 d_law_384 rfl (lv_at hl 0 rfl) ?_
  refine lv_iload_n F.1.1 F.1.2.1 d_law_385 rfl (lv_at hl 3 rfl) ?_
  refine lv_iconst (v := 1) F.1.1 F.1.2.1 d_law_386 (by decide) ?_
  refine lv_iadd F.1.1 F.1.2.1 d_law_387 ?_
  refine va_sld F.1.1 F.1.2.1 hX hbl hbA hS (sx (k := 1) (by omega) hLL) d_law_388 ?_
  refine lv_aload_n F.1.1 F.1.2.1 d_law_389 rfl (lv_at hl 0 rfl) ?_
  refine lv_iload_n F.1.1 F.1.2.1 d_law_390 rfl (lv_at hl 3 rfl) ?_
  refine lv_iconst (v := 2) F.1.1 F.1.2.1 d_law_391 (by decide) ?_
  refine lv_iadd F.1.1 F.1.2.1 d_law_392 ?_
  refine va_sld F.1.1 F.1.2.1 hX hbl hbA hS (sx (k := 2) (by omega) hLL) d_law_393 ?_
  refine hw_call1 (hw_runV F hL hS hH hl (c_Cel_cover l D s.heap.size ad σ (obP D ad 256 6 shMod o nov) hRs.1 _ _) ck_Cel (hasO_o celE) rfl q_ml_Law_47 q_im_Cel_cover q_se_Cel_cover q_in_Cel q_co_Cel_cover rfl (k := 2) ⟨rfl, rfl, by decide +kernel, ⟨Nat.le_of_ble_eq_true rfl, Nat.le_of_ble_eq_true rfl⟩, Nat.le_of_ble_eq_true rfl⟩ rfl d_law_394 ⟨by show _ ≤ 600000; omega, by show _ ≤ 7302250; omega⟩) hS (fun H locs hH hS => ?_)
  refine lv_aload_n F.1.1 F.1.2.1 d_law_397 rfl (lv_at hl 2 rfl) ?_
  refine lv_aload_n F.1.1 F.1.2.1 d_law_398 rfl (lv_at hl 0 rfl) ?_
  refine lv_iload_n F.1.1 F.1.2.1 d_law_399 rfl (lv_at hl 3 rfl) ?_
  refine lv_iconst (v := 1) F.1.1 F.1.2.1 d_law_400 (by decide) ?_
  refine lv_iadd F.1.1 F.1.2.1 d_law_401 ?_
  refine va_sld F.1.1 F.1.2.1 hX hbl hbA hS (sx (k := 1) (by omega) hLL) d_law_402 ?_
  refine lv_aload_n F.1.1 F.1.2.1 d_law_403 rfl (lv_at hl 0 rfl) ?_
  refine lv_iload_n F.1.1 F.1.2.1 d_law_404 rfl (lv_at hl 3 rfl) ?_
  refine lv_iconst (v := 2) F.1.1 F.1.2.1 d_law_405 (by decide) ?_
  refine lv_iadd F.1.1 F.1.2.1 d_law_406 ?_
  refine va_sld F.1.1 F.1.2.1 hX hbl hbA hS (sx (k := 2) (by omega) hLL) d_law_407 ?_
  refine hw_call1 (hw_runV F hL hS hH hl (c_Mod_cover l D s.heap.size ad 256 o _ cel_hM σ hRs.1 hRs.2.1 hRs.2.2.1 _ _) ck_Mod (hasO_o cel_hM) rfl q_ml_Law_50 q_im_Mod_cover q_se_Mod_cover q_in_Mod q_co_Mod_cover rfl (k := 2) ⟨rfl, rfl, by decide +kernel, ⟨Nat.le_of_ble_eq_true rfl, Nat.le_of_ble_eq_true rfl⟩, Nat.le_of_ble_eq_true rfl⟩ rfl d_law_408 ⟨by show _ ≤ 600000; omega, by show _ ≤ 7302250; omega⟩) hS (fun H locs hH hS => ?_)
  replace hH := hH.to cel_MM
  refine lv_icmp_eq (tgt := 923) F.1.1 F.1.2.1 d_law_411 (by decide) (fun ce => ?_) (fun cn => ?_)
  · exact NX ad _ _ H locs ls K S hH (st_cover hRs) rfl rfl (by omega) (by omega) hS hl
  · exact absurd rfl cn
set_option maxHeartbeats 1000000 in
theorem law_survey (F : fx p m c code 4 s #[Value.ref b] R_Law D) (hX : va_X b L xs s s.heap) (hbl : b < s.heap.size) (hLL : L ≤ 2562) (hi : i + 5 ≤ L) (hK : K + 3 ≤ 600000) (hSl : S + 52 ≤ 7302250) (hRs : Rs σ o) (hH : hw D s.heap.size ad (celP D ad σ (obP D ad 256 6 shMod o nov)) H) (hS : va_S (fun q => s.heap.size ≤ q) s.heap H locs) (hl : lv_has ls 4 [(0, .ref b), (1, .ref (ad 0)), (2, .ref (ad 256)), (3, .int (nI i))]) (NX : lwN p l e s m below meth c D b Q (ad 0) (ad 256) i K S) : W p l e room_1 s m #[Value.ref b] below meth c H locs K S Q (F0 m 416 ls []) := by
  have hbA : ¬ (fun q => s.heap.size ≤ q) b := Nat.not_le.mpr hbl
  have hL := Nat.le_refl s.heap.size
  have hXo := xOK_of hRs.1.1 hRs.1.2.1
  refine lv_aload_n F.1.1 F.1.2.1 d_law_416 rfl (lv_at hl 1 rfl) ?_
  refine lv_aload_n F.1.1 F.1.2.1 d_law_417 rfl (lv_at hl 0 rfl) ?_
  refine lv_iload_n F.1.1 F.1.2.1 d_law_418 rfl (lv_at hl 3 rfl) ?_
  refine lv_iconst (v := 1) F.1.1 F.1.2.1 d_law_419 (by decide) ?_
  refine lv_iadd F.1.1 F.1.2.1 d_law_420 ?_
  refine va_sld F.1.1 F.1.2.1 hX hbl hbA hS (sx (k := 1) (by omega) hLL) d_law_421 ?_
  refine lv_aload_n F.1.1 F.1.2.1 d_law_422 rfl (lv_at hl 0 rfl) ?_
  refine lv_iload_n F.1.1 F.1.2.1 d_law_423 rfl (lv_at hl 3 rfl) ?_
  refine lv_iconst (v := 2) F.1.1 F.1.2.1 d_law_424 (by decide) ?_
  refine lv_iadd F.1.1 F.1.2.1 d_law_425 ?_
  refine va_sld F.1.1 F.1.2.1 hX hbl hbA hS (sx (k := 2) (by omega) hLL) d_law_426 ?_
  refine lv_i2l F.1.1 F.1.2.1 d_law_427 rfl ?_
  refine lv_bipush (v := 32) F.1.1 F.1.2.1 d_law_428 (by decide) ?_
  refine lv_lshl F.1.1 F.1.2.1 d_law_430 rfl ?_
  refine lv_aload_n F.1.1 F.1.2.1 d_law_431 rfl (lv_at hl 0 rfl) ?_
  refine lv_iload_n F.1.1 F.1.2.1 d_law_432 rfl (lv_at hl 3 rfl) ?_
  refine lv_iconst (v := 3) F.1.1 F.1.2.1 d_law_433 (by decide) ?_
  refine lv_iadd F.1.1 F.1.2.1 d_law_434 ?_
  refine va_sld F.1.1 F.1.2.1 hX hbl hbA hS (sx (k := 3) (by omega) hLL) d_law_435 ?_
  refine lv_i2l F.1.1 F.1.2.1 d_law_436 rfl ?_
  refine lv_ldc2 F.1.1 F.1.2.1 F.1.2.2.2.1 (F.1.2.2.2.2 _ q_cl_Law_26) d_law_437 ?_
  refine lv_land F.1.1 F.1.2.1 d_law_440 ?_
  refine lv_lor F.1.1 F.1.2.1 d_law_441 ?_
  refine hw_call1 (hw_runV F hL hS hH hl (c_Cel_survey l D s.heap.size ad σ (obP D ad 256 6 shMod o nov) hRs.1 _ _) ck_Cel (hasO_o celE) rfl q_ml_Law_51 q_im_Cel_survey q_se_Cel_survey q_in_Cel q_co_Cel_survey rfl (k := 2) ⟨rfl, rfl, by decide +kernel, ⟨Nat.le_of_ble_eq_true rfl, Nat.le_of_ble_eq_true rfl⟩, Nat.le_of_ble_eq_true rfl⟩ rfl d_law_442 ⟨by show _ ≤ 600000; omega, by show _ ≤ 7302250; omega⟩) hS (fun H locs hH hS => ?_)
  refine lv_aload_n F.1.1 F.1.2.1 d_law_445 rfl (lv_at hl 2 rfl) ?_
  refine lv_aload_n F.1.1 F.1.2.1 d_law_446 rfl (lv_at hl 0 rfl) ?_
  refine lv_iload_n F.1.1 F.1.2.1 d_law_447 rfl (lv_at hl 3 rfl) ?_
  refine lv_iconst (v := 1) F.1.1 F.1.2.1 d_law_448 (by decide) ?_
  refine lv_iadd F.1.1 F.1.2.1 d_law_449 ?_
  refine va_sld F.1.1 F.1.2.1 hX hbl hbA hS (sx (k := 1) (by omega) hLL) d_law_450 ?_
  refine lv_aload_n F.1.1 F.1.2.1 d_law_451 rfl (lv_at hl 0 rfl) ?_
  refine lv_iload_n F.1.1 F.1.2.1 d_law_452 rfl (lv_at hl 3 rfl) ?_
  refine lv_iconst (v := 2) F.1.1 F.1.2.1 d_law_453 (by decide) ?_
  refine lv_iadd F.1.1 F.1.2.1 d_law_454 ?_
  refine va_sld F.1.1 F.1.2.1 hX hbl hbA hS (sx (k := 2) (by omega) hLL) d_law_455 ?_
  refine lv_i2l F.1.1 F.1.2.1 d_law_456 rfl ?_
  refine lv_bipush (v := 32) F.1.1 F.1.2.1 d_law_457 (by decide) ?_
  refine lv_lshl F.1.1 F.1.2.1 d_law_459 rfl ?_
  refine lv_aload_n F.1.1 F.1.2.1 d_law_460 rfl (lv_at hl 0 rfl) ?_
  refine lv_iload_n F.1.1 F.1.2.1 d_law_461 rfl (lv_at hl 3 rfl) ?_
  refine lv_iconst (v := 3) F.1.1 F.1.2.1 d_law_462 (by decide) ?_
  refine lv_iadd F.1.1 F.1.2.1 d_law_463 ?_
  refine va_sld F.1.1 F.1.2.1 hX hbl hbA hS (sx (k := 3) (by omega) hLL) d_law_464 ?_
  refine lv_i2l F.1.1 F.1.2.1 d_law_465 rfl ?_
  refine lv_ldc2 F.1.1 F.1.2.1 F.1.2.2.2.1 (F.1.2.2.2.2 _ q_cl_Law_26) d_law_466 ?_
  refine lv_land F.1.1 F.1.2.1 d_law_469 ?_
  refine lv_lor F.1.1 F.1.2.1 d_law_470 ?_
  refine hw_call1 (hw_runV F hL hS hH hl (c_Mod_survey l D s.heap.size ad 256 o _ cel_hM σ hRs.1 hRs.2.1 hRs.2.2.1 hRs.sv _ _) ck_Mod (hasO_o cel_hM) rfl q_ml_Law_55 q_im_Mod_survey q_se_Mod_survey q_in_Mod q_co_Mod_survey rfl (k := 2) ⟨rfl, rfl, by decide +kernel, ⟨Nat.le_of_ble_eq_true rfl, Nat.le_of_ble_eq_true rfl⟩, Nat.le_of_ble_eq_true rfl⟩ rfl d_law_471 ⟨by show _ ≤ 600000; omega, by show _ ≤ 7302250; omega⟩) hS (fun H locs hH hS => ?_)
  replace hH := hH.to cel_MM
  refine lv_icmp_eq (tgt := 923) F.1.1 F.1.2.1 d_law_474 (by decide) (fun ce => ?_) (fun cn => ?_)
  · exact NX ad _ _ H locs ls K S hH (st_survey hRs) rfl rfl (by omega) (by omega) hS hl
  · exact absurd rfl cn
set_option maxHeartbeats 1000000 in
theorem law_height (F : fx p m c code 4 s #[Value.ref b] R_Law D) (hX : va_X b L xs s s.heap) (hbl : b < s.heap.size) (hLL : L ≤ 2562) (hi : i + 5 ≤ L) (hK : K + 3 ≤ 600000) (hSl : S + 52 ≤ 7302250) (hRs : Rs σ o) (hH : hw D s.heap.size ad (celP D ad σ (obP D ad 256 6 shMod o nov)) H) (hS : va_S (fun q => s.heap.size ≤ q) s.heap H locs) (hl : lv_has ls 4 [(0, .ref b), (1, .ref (ad 0)), (2, .ref (ad 256)), (3, .int (nI i))]) (NX : lwN p l e s m below meth c D b Q (ad 0) (ad 256) i K S) : W p l e room_1 s m #[Value.ref b] below meth c H locs K S Q (F0 m 479 ls []) := by
  have hbA : ¬ (fun q => s.heap.size ≤ q) b := Nat.not_le.mpr hbl
  have hL := Nat.le_refl s.heap.size
  have hXo := xOK_of hRs.1.1 hRs.1.2.1
  refine lv_aload_n F.1.1 F.1.2.1 d_law_479 rfl (lv_at hl 1 rfl) ?_
  refine lv_aload_n F.1.1 F.1.2.1 d_law_480 rfl (lv_at hl 0 rfl) ?_
  refine lv_iload_n F.1.1 F.1.2.1 d_law_481 rfl (lv_at hl 3 rfl) ?_
  refine lv_iconst (v := 1) F.1.1 F.1.2.1 d_law_482 (by decide) ?_
  refine lv_iadd F.1.1 F.1.2.1 d_law_483 ?_
  refine va_sld F.1.1 F.1.2.1 hX hbl hbA hS (sx (k := 1) (by omega) hLL) d_law_484 ?_
  refine hw_call1 (hw_runV F hL hS hH hl (c_Cel_height l D s.heap.size ad σ (obP D ad 256 6 shMod o nov) hXo _) ck_Cel (hasO_o celE) rfl q_ml_Law_56 q_im_Cel_height q_se_Cel_height q_in_Cel q_co_Cel_height rfl (k := 1) ⟨rfl, rfl, by decide +kernel, ⟨Nat.le_of_ble_eq_true rfl, Nat.le_of_ble_eq_true rfl⟩, Nat.le_of_ble_eq_true rfl⟩ rfl d_law_485 ⟨by show _ ≤ 600000; omega, by show _ ≤ 7302250; omega⟩) hS (fun H locs hH hS => ?_)
  refine lv_aload_n F.1.1 F.1.2.1 d_law_488 rfl (lv_at hl 2 rfl) ?_
  refine lv_aload_n F.1.1 F.1.2.1 d_law_489 rfl (lv_at hl 0 rfl) ?_
  refine lv_iload_n F.1.1 F.1.2.1 d_law_490 rfl (lv_at hl 3 rfl) ?_
  refine lv_iconst (v := 1) F.1.1 F.1.2.1 d_law_491 (by decide) ?_
  refine lv_iadd F.1.1 F.1.2.1 d_law_492 ?_
  refine va_sld F.1.1 F.1.2.1 hX hbl hbA hS (sx (k := 1) (by omega) hLL) d_law_493 ?_
  refine hw_call1 (hw_runV F hL hS hH hl (c_Mod_height l D s.heap.size ad 256 o _ cel_hM σ hRs.1 hRs.2.1 hRs.2.2.1 _) ck_Mod (hasO_o cel_hM) rfl q_ml_Law_60 q_im_Mod_height q_se_Mod_height q_in_Mod q_co_Mod_height rfl (k := 1) ⟨rfl, rfl, by decide +kernel, ⟨Nat.le_of_ble_eq_true rfl, Nat.le_of_ble_eq_true rfl⟩, Nat.le_of_ble_eq_true rfl⟩ rfl d_law_494 ⟨by show _ ≤ 600000; omega, by show _ ≤ 7302250; omega⟩) hS (fun H locs hH hS => ?_)
  refine W.lcmp F.1.1 F.1.2.1 d_law_497 ?_
  refine lv_if_eq (tgt := 923) F.1.1 F.1.2.1 d_law_498 (by decide) (fun ce => ?_) (fun cn => ?_)
  · exact NX ad _ _ H locs ls K S hH hRs rfl rfl (by omega) (by omega) hS hl
  · rw [lg_cmp_eq] at cn
    exact absurd rfl cn
set_option maxHeartbeats 1000000 in
theorem law_thickness (F : fx p m c code 4 s #[Value.ref b] R_Law D) (hX : va_X b L xs s s.heap) (hbl : b < s.heap.size) (hLL : L ≤ 2562) (hi : i + 5 ≤ L) (hK : K + 3 ≤ 600000) (hSl : S + 52 ≤ 7302250) (hRs : Rs σ o) (hH : hw D s.heap.size ad (celP D ad σ (obP D ad 256 6 shMod o nov)) H) (hS : va_S (fun q => s.heap.size ≤ q) s.heap H locs) (hl : lv_has ls 4 [(0, .ref b), (1, .ref (ad 0)), (2, .ref (ad 256)), (3, .int (nI i))]) (NX : lwN p l e s m below meth c D b Q (ad 0) (ad 256) i K S) : W p l e room_1 s m #[Value.ref b] below meth c H locs K S Q (F0 m 503 ls []) := by
  have hbA : ¬ (fun q => s.heap.size ≤ q) b := Nat.not_le.mpr hbl
  have hL := Nat.le_refl s.heap.size
  have hXo := xOK_of hRs.1.1 hRs.1.2.1
  refine lv_aload_n F.1.1 F.1.2.1 d_law_503 rfl (lv_at hl 1 rfl) ?_
  refine lv_aload_n F.1.1 F.1.2.1 d_law_504 rfl (lv_at hl 0 rfl) ?_
  refine lv_iload_n F.1.1 F.1.2.1 d_law_505 rfl (lv_at hl 3 rfl) ?_
  refine lv_iconst (v := 1) F.1.1 F.1.2.1 d_law_506 (by decide) ?_
  refine lv_iadd F.1.1 F.1.2.1 d_law_507 ?_
  refine va_sld F.1.1 F.1.2.1 hX hbl hbA hS (sx (k := 1) (by omega) hLL) d_law_508 ?_
  refine lv_aload_n F.1.1 F.1.2.1 d_law_509 rfl (lv_at hl 0 rfl) ?_
  refine lv_iload_n F.1.1 F.1.2.1 d_law_510 rfl (lv_at hl 3 rfl) ?_
  refine lv_iconst (v := 2) F.1.1 F.1.2.1 d_law_511 (by decide) ?_
  refine lv_iadd F.1.1 F.1.2.1 d_law_512 ?_
  refine va_sld F.1.1 F.1.2.1 hX hbl hbA hS (sx (k := 2) (by omega) hLL) d_law_513 ?_
  refine hw_call1 (hw_runV F hL hS hH hl (c_Cel_thickness l D s.heap.size ad σ (obP D ad 256 6 shMod o nov) hXo _ _) ck_Cel (hasO_o celE) rfl q_ml_Law_61 q_im_Cel_thickness q_se_Cel_thickness q_in_Cel q_co_Cel_thickness rfl (k := 2) ⟨rfl, rfl, by decide +kernel, ⟨Nat.le_of_ble_eq_true rfl, Nat.le_of_ble_eq_true rfl⟩, Nat.le_of_ble_eq_true rfl⟩ rfl d_law_514 ⟨by show _ ≤ 600000; omega, by show _ ≤ 7302250; omega⟩) hS (fun H locs hH hS => ?_)
  refine lv_aload_n F.1.1 F.1.2.1 d_law_517 rfl (lv_at hl 2 rfl) ?_
  refine lv_aload_n F.1.1 F.1.2.1 d_law_518 rfl (lv_at hl 0 rfl) ?_
  refine lv_iload_n F.1.1 F.1.2.1 d_law_519 rfl (lv_at hl 3 rfl) ?_
  refine lv_iconst (v := 1) F.1.1 F.1.2.1 d_law_520 (by decide) ?_
  refine lv_iadd F.1.1 F.1.2.1 d_law_521 ?_
  refine va_sld F.1.1 F.1.2.1 hX hbl hbA hS (sx (k := 1) (by omega) hLL) d_law_522 ?_
  refine lv_aload_n F.1.1 F.1.2.1 d_law_523 rfl (lv_at hl 0 rfl) ?_
  refine lv_iload_n F.1.1 F.1.2.1 d_law_524 rfl (lv_at hl 3 rfl) ?_
  refine lv_iconst (v := 2) F.1.1 F.1.2.1 d_law_525 (by decide) ?_
  refine lv_iadd F.1.1 F.1.2.1 d_law_526 ?_
  refine va_sld F.1.1 F.1.2.1 hX hbl hbA hS (sx (k := 2) (by omega) hLL) d_law_527 ?_
  refine hw_call1 (hw_runV F hL hS hH hl (c_Mod_thickness l D s.heap.size ad 256 o _ cel_hM σ hRs.1 hRs.2.1 hRs.2.2.1 _ _) ck_Mod (hasO_o cel_hM) rfl q_ml_Law_65 q_im_Mod_thickness q_se_Mod_thickness q_in_Mod q_co_Mod_thickness rfl (k := 2) ⟨rfl, rfl, by decide +kernel, ⟨Nat.le_of_ble_eq_true rfl, Nat.le_of_ble_eq_true rfl⟩, Nat.le_of_ble_eq_true rfl⟩ rfl d_law_528 ⟨by show _ ≤ 600000; omega, by show _ ≤ 7302250; omega⟩) hS (fun H locs hH hS => ?_)
  refine W.lcmp F.1.1 F.1.2.1 d_law_531 ?_
  refine lv_if_eq (tgt := 923) F.1.1 F.1.2.1 d_law_532 (by decide) (fun ce => ?_) (fun cn => ?_)
  · exact NX ad _ _ H locs ls K S hH hRs rfl rfl (by omega) (by omega) hS hl
  · rw [lg_cmp_eq] at cn
    exact absurd rfl cn
set_option maxHeartbeats 1000000 in
theorem law_mass (F : fx p m c code 4 s #[Value.ref b] R_Law D) (hX : va_X b L xs s s.heap) (hbl : b < s.heap.size) (hLL : L ≤ 2562) (hi : i + 5 ≤ L) (hK : K + 3 ≤ 600000) (hSl : S + 52 ≤ 7302250) (hRs : Rs σ o) (hH : hw D s.heap.size ad (celP D ad σ (obP D ad 256 6 shMod o nov)) H) (hS : va_S (fun q => s.heap.size ≤ q) s.heap H locs) (hl : lv_has ls 4 [(0, .ref b), (1, .ref (ad 0)), (2, .ref (ad 256)), (3, .int (nI i))]) (NX : lwN p l e s m below meth c D b Q (ad 0) (ad 256) i K S) : W p l e room_1 s m #[Value.ref b] below meth c H locs K S Q (F0 m 537 ls []) := by
  have hbA : ¬ (fun q => s.heap.size ≤ q) b := Nat.not_le.mpr hbl
  have hL := Nat.le_refl s.heap.size
  have hXo := xOK_of hRs.1.1 hRs.1.2.1
  refine lv_aload_n F.1.1 F.1.2.1 d_law_537 rfl (lv_at hl 1 rfl) ?_
  refine lv_aload_n F.1.1 F.1.2.1 d_law_538 rfl (lv_at hl 0 rfl) ?_
  refine lv_iload_n F.1.1 F.1.2.1 d_law_539 rfl (lv_at hl 3 rfl) ?_
  refine lv_iconst (v := 1) F.1.1 F.1.2.1 d_law_540 (by decide) ?_
  refine lv_iadd F.1.1 F.1.2.1 d_law_541 ?_
  refine va_sld F.1.1 F.1.2.1 hX hbl hbA hS (sx (k := 1) (by omega) hLL) d_law_542 ?_
  refine lv_aload_n F.1.1 F.1.2.1 d_law_543 rfl (lv_at hl 0 rfl) ?_
  refine lv_iload_n F.1.1 F.1.2.1 d_law_544 rfl (lv_at hl 3 rfl) ?_
  refine lv_iconst (v := 2) F.1.1 F.1.2.1 d_law_545 (by decide) ?_
  refine lv_iadd F.1.1 F.1.2.1 d_law_546 ?_
  refine va_sld F.1.1 F.1.2.1 hX hbl hbA hS (sx (k := 2) (by omega) hLL) d_law_547 ?_
  refine hw_call1 (hw_runV F hL hS hH hl (c_Cel_mass l D s.heap.size ad σ (obP D ad 256 6 shMod o nov) hXo _ _) ck_Cel (hasO_o celE) rfl q_ml_Law_66 q_im_Cel_mass q_se_Cel_mass q_in_Cel q_co_Cel_mass rfl (k := 2) ⟨rfl, rfl, by decide +kernel, ⟨Nat.le_of_ble_eq_true rfl, Nat.le_of_ble_eq_true rfl⟩, Nat.le_of_ble_eq_true rfl⟩ rfl d_law_548 ⟨by show _ ≤ 600000; omega, by show _ ≤ 7302250; omega⟩) hS (fun H locs hH hS => ?_)
  refine lv_aload_n F.1.1 F.1.2.1 d_law_551 rfl (lv_at hl 2 rfl) ?_
  refine lv_aload_n F.1.1 F.1.2.1 d_law_552 rfl (lv_at hl 0 rfl) ?_
  refine lv_iload_n F.1.1 F.1.2.1 d_law_553 rfl (lv_at hl 3 rfl) ?_
  refine lv_iconst (v := 1) F.1.1 F.1.2.1 d_law_554 (by decide) ?_
  refine lv_iadd F.1.1 F.1.2.1 d_law_555 ?_
  refine va_sld F.1.1 F.1.2.1 hX hbl hbA hS (sx (k := 1) (by omega) hLL) d_law_556 ?_
  refine lv_aload_n F.1.1 F.1.2.1 d_law_557 rfl (lv_at hl 0 rfl) ?_
  refine lv_iload_n F.1.1 F.1.2.1 d_law_558 rfl (lv_at hl 3 rfl) ?_
  refine lv_iconst (v := 2) F.1.1 F.1.2.1 d_law_559 (by decide) ?_
  refine lv_iadd F.1.1 F.1.2.1 d_law_560 ?_
  refine va_sld F.1.1 F.1.2.1 hX hbl hbA hS (sx (k := 2) (by omega) hLL) d_law_561 ?_
  refine hw_call1 (hw_runV F hL hS hH hl (c_Mod_mass l D s.heap.size ad 256 o _ cel_hM σ hRs.1 hRs.2.1 hRs.2.2.1 _ _) ck_Mod (hasO_o cel_hM) rfl q_ml_Law_69 q_im_Mod_mass q_se_Mod_mass q_in_Mod q_co_Mod_mass rfl (k := 2) ⟨rfl, rfl, by decide +kernel, ⟨Nat.le_of_ble_eq_true rfl, Nat.le_of_ble_eq_true rfl⟩, Nat.le_of_ble_eq_true rfl⟩ rfl d_law_562 ⟨by show _ ≤ 600000; omega, by show _ ≤ 7302250; omega⟩) hS (fun H locs hH hS => ?_)
  refine W.lcmp F.1.1 F.1.2.1 d_law_565 ?_
  refine lv_if_eq (tgt := 923) F.1.1 F.1.2.1 d_law_566 (by decide) (fun ce => ?_) (fun cn => ?_)
  · exact NX ad _ _ H locs ls K S hH hRs rfl rfl (by omega) (by omega) hS hl
  · rw [lg_cmp_eq] at cn
    exact absurd rfl cn
set_option maxHeartbeats 1000000 in
theorem law_covered (F : fx p m c code 4 s #[Value.ref b] R_Law D) (hX : va_X b L xs s s.heap) (hbl : b < s.heap.size) (hLL : L ≤ 2562) (hi : i + 5 ≤ L) (hK : K + 3 ≤ 600000) (hSl : S + 52 ≤ 7302250) (hRs : Rs σ o) (hH : hw D s.heap.size ad (celP D ad σ (obP D ad 256 6 shMod o nov)) H) (hS : va_S (fun q => s.heap.size ≤ q) s.heap H locs) (hl : lv_has ls 4 [(0, .ref b), (1, .ref (ad 0)), (2, .ref (ad 256)), (3, .int (nI i))]) (NX : lwN p l e s m below meth c D b Q (ad 0) (ad 256) i K S) : W p l e room_1 s m #[Value.ref b] below meth c H locs K S Q (F0 m 571 ls []) := by
  have hbA : ¬ (fun q => s.heap.size ≤ q) b := Nat.not_le.mpr hbl
  have hL := Nat.le_refl s.heap.size
  have hXo := xOK_of hRs.1.1 hRs.1.2.1
  refine lv_aload_n F.1.1 F.1.2.1 d_law_571 rfl (lv_at hl 1 rfl) ?_
  refine lv_aload_n F.1.1 F.1.2.1 d_law_572 rfl (lv_at hl 0 rfl) ?_
  refine lv_iload_n F.1.1 F.1.2.1 d_law_573 rfl (lv_at hl 3 rfl) ?_
  refine lv_iconst (v := 1) F.1.1 F.1.2.1 d_law_574 (by decide) ?_
  refine lv_iadd F.1.1 F.1.2.1 d_law_575 ?_
  refine va_sld F.1.1 F.1.2.1 hX hbl hbA hS (sx (k := 1) (by omega) hLL) d_law_576 ?_
  refine hw_call1 (hw_runV F hL hS hH hl (c_Cel_covered l D s.heap.size ad σ (obP D ad 256 6 shMod o nov) hXo _) ck_Cel (hasO_o celE) rfl q_ml_Law_70 q_im_Cel_covered q_se_Cel_covered q_in_Cel q_co_Cel_covered rfl (k := 1) ⟨rfl, rfl, by decide +kernel, ⟨Nat.le_of_ble_eq_true rfl, Nat.le_of_ble_eq_true rfl⟩, Nat.le_of_ble_eq_true rfl⟩ rfl d_law_577 ⟨by show _ ≤ 600000; omega, by show _ ≤ 7302250; omega⟩) hS (fun H locs hH hS => ?_)
  refine lv_aload_n F.1.1 F.1.2.1 d_law_580 rfl (lv_at hl 2 rfl) ?_
  refine lv_aload_n F.1.1 F.1.2.1 d_law_581 rfl (lv_at hl 0 rfl) ?_
  refine lv_iload_n F.1.1 F.1.2.1 d_law_582 rfl (lv_at hl 3 rfl) ?_
  refine lv_iconst (v := 1) F.1.1 F.1.2.1 d_law_583 (by decide) ?_
  refine lv_iadd F.1.1 F.1.2.1 d_law_584 ?_
  refine va_sld F.1.1 F.1.2.1 hX hbl hbA hS (sx (k := 1) (by omega) hLL) d_law_585 ?_
  refine hw_call1 (hw_runV F hL hS hH hl (c_Mod_covered l D s.heap.size ad 256 o _ cel_hM σ hRs.1 hRs.2.1 hRs.2.2.1 _) ck_Mod (hasO_o cel_hM) rfl q_ml_Law_73 q_im_Mod_covered q_se_Mod_covered q_in_Mod q_co_Mod_covered rfl (k := 1) ⟨rfl, rfl, by decide +kernel, ⟨Nat.le_of_ble_eq_true rfl, Nat.le_of_ble_eq_true rfl⟩, Nat.le_of_ble_eq_true rfl⟩ rfl d_law_586 ⟨by show _ ≤ 600000; omega, by show _ ≤ 7302250; omega⟩) hS (fun H locs hH hS => ?_)
  refine lv_icmp_eq (tgt := 923) F.1.1 F.1.2.1 d_law_589 (by decide) (fun ce => ?_) (fun cn => ?_)
  · exact NX ad _ _ H locs ls K S hH hRs rfl rfl (by omega) (by omega) hS hl
  · exact absurd rfl cn
set_option maxHeartbeats 1000000 in
theorem law_surface (F : fx p m c code 4 s #[Value.ref b] R_Law D) (hX : va_X b L xs s s.heap) (hbl : b < s.heap.size) (hLL : L ≤ 2562) (hi : i + 5 ≤ L) (hK : K + 3 ≤ 600000) (hSl : S + 52 ≤ 7302250) (hRs : Rs σ o) (hH : hw D s.heap.size ad (celP D ad σ (obP D ad 256 6 shMod o nov)) H) (hS : va_S (fun q => s.heap.size ≤ q) s.heap H locs) (hl : lv_has ls 4 [(0, .ref b), (1, .ref (ad 0)), (2, .ref (ad 256)), (3, .int (nI i))]) (NX : lwN p l e s m below meth c D b Q (ad 0) (ad 256) i K S) : W p l e room_1 s m #[Value.ref b] below meth c H locs K S Q (F0 m 594 ls []) := by
  have hbA : ¬ (fun q => s.heap.size ≤ q) b := Nat.not_le.mpr hbl
  have hL := Nat.le_refl s.heap.size
  have hXo := xOK_of hRs.1.1 hRs.1.2.1
  refine lv_aload_n F.1.1 F.1.2.1 d_law_594 rfl (lv_at hl 1 rfl) ?_
  refine hw_callA (hw_runVA F hL hS hH hl (c_Cel_surface l D s.heap.size ad σ (obP D ad 256 6 shMod o nov) hXo) ck_Cel (hasO_o celE) rfl q_ml_Law_74 q_im_Cel_surface q_se_Cel_surface q_in_Cel q_co_Cel_surface rfl (k := 0) ⟨rfl, rfl, by decide +kernel, ⟨Nat.le_of_ble_eq_true rfl, Nat.le_of_ble_eq_true rfl⟩, Nat.le_of_ble_eq_true rfl⟩ rfl d_law_595 ⟨by show _ ≤ 600000; omega, by show _ ≤ 7302250; omega⟩) hS (fun ad2 f2 H locs hB hH hS => ?_)
  obtain ⟨hx, rfl⟩ := hB
  replace hH := hH.to (by rw [obP_ad (ad' := ad2) (fun k hk => hx _ (by omega)) (fun s hs q => absurd q ((by decide : ∀ s ∈ shMod, s.1 ≠ 5) s hs))])
  have h0 : ad2 0 = ad 0 := hx 0 (by omega)
  have h1 : ad2 256 = ad 256 := hx 256 (by omega)
  rw [← h0, ← h1] at hl
  refine lv_aload_n F.1.1 F.1.2.1 d_law_598 rfl (lv_at hl 2 rfl) ?_
  refine hw_call1 (hw_runV F hL hS hH hl (c_Mod_surface l D s.heap.size ad2 256 o _ cel_hM σ hRs.1 hRs.2.1 hRs.2.2.1) ck_Mod (hasO_o cel_hM) rfl q_ml_Law_78 q_im_Mod_surface q_se_Mod_surface q_in_Mod q_co_Mod_surface rfl (k := 0) ⟨rfl, rfl, by decide +kernel, ⟨Nat.le_of_ble_eq_true rfl, Nat.le_of_ble_eq_true rfl⟩, Nat.le_of_ble_eq_true rfl⟩ rfl d_law_599 ⟨by show _ ≤ 600000; omega, by show _ ≤ 7302250; omega⟩) hS (fun H locs hH hS => ?_)
  replace hH := hH.to cel_MM
  refine lv_icmp_eq (tgt := 923) F.1.1 F.1.2.1 d_law_602 (by decide) (fun ce => ?_) (fun cn => ?_)
  · rw [h0, h1] at hl
    exact NX ad2 _ _ H locs ls (K + 3) (S + 52) hH (st_surface hRs) h0 h1 (by omega) (by omega) hS hl
  · exact absurd rfl cn
set_option maxHeartbeats 1000000 in
theorem law_point (F : fx p m c code 4 s #[Value.ref b] R_Law D) (hX : va_X b L xs s s.heap) (hbl : b < s.heap.size) (hLL : L ≤ 2562) (hi : i + 5 ≤ L) (hK : K + 3 ≤ 600000) (hSl : S + 52 ≤ 7302250) (hRs : Rs σ o) (hH : hw D s.heap.size ad (celP D ad σ (obP D ad 256 6 shMod o nov)) H) (hS : va_S (fun q => s.heap.size ≤ q) s.heap H locs) (hl : lv_has ls 4 [(0, .ref b), (1, .ref (ad 0)), (2, .ref (ad 256)), (3, .int (nI i))]) (NX : lwN p l e s m below meth c D b Q (ad 0) (ad 256) i K S) : W p l e room_1 s m #[Value.ref b] below meth c H locs K S Q (F0 m 607 ls []) := by
  have hbA : ¬ (fun q => s.heap.size ≤ q) b := Nat.not_le.mpr hbl
  have hL := Nat.le_refl s.heap.size
  have hXo := xOK_of hRs.1.1 hRs.1.2.1
  refine lv_aload_n F.1.1 F.1.2.1 d_law_607 rfl (lv_at hl 1 rfl) ?_
  refine lv_aload_n F.1.1 F.1.2.1 d_law_608 rfl (lv_at hl 0 rfl) ?_
  refine lv_iload_n F.1.1 F.1.2.1 d_law_609 rfl (lv_at hl 3 rfl) ?_
  refine lv_iconst (v := 1) F.1.1 F.1.2.1 d_law_610 (by decide) ?_
  refine lv_iadd F.1.1 F.1.2.1 d_law_611 ?_
  refine va_sld F.1.1 F.1.2.1 hX hbl hbA hS (sx (k := 1) (by omega) hLL) d_law_612 ?_
  refine lv_aload_n F.1.1 F.1.2.1 d_law_613 rfl (lv_at hl 0 rfl) ?_
  refine lv_iload_n F.1.1 F.1.2.1 d_law_614 rfl (lv_at hl 3 rfl) ?_
  refine lv_iconst (v := 2) F.1.1 F.1.2.1 d_law_615 (by decide) ?_
  refine lv_iadd F.1.1 F.1.2.1 d_law_616 ?_
  refine va_sld F.1.1 F.1.2.1 hX hbl hbA hS (sx (k := 2) (by omega) hLL) d_law_617 ?_
  refine lv_aload_n F.1.1 F.1.2.1 d_law_618 rfl (lv_at hl 0 rfl) ?_
  refine lv_iload_n F.1.1 F.1.2.1 d_law_619 rfl (lv_at hl 3 rfl) ?_
  refine lv_iconst (v := 3) F.1.1 F.1.2.1 d_law_620 (by decide) ?_
  refine lv_iadd F.1.1 F.1.2.1 d_law_621 ?_
  refine va_sld F.1.1 F.1.2.1 hX hbl hbA hS (sx (k := 3) (by omega) hLL) d_law_622 ?_
  refine lv_aload_n F.1.1 F.1.2.1 d_law_623 rfl (lv_at hl 0 rfl) ?_
  refine lv_iload_n F.1.1 F.1.2.1 d_law_624 rfl (lv_at hl 3 rfl) ?_
  refine lv_iconst (v := 4) F.1.1 F.1.2.1 d_law_625 (by decide) ?_
  refine lv_iadd F.1.1 F.1.2.1 d_law_626 ?_
  refine va_sld F.1.1 F.1.2.1 hX hbl hbA hS (sx (k := 4) (by omega) hLL) d_law_627 ?_
  refine hw_call1 (hw_runV F hL hS hH hl (c_Cel_point l D s.heap.size ad σ (obP D ad 256 6 shMod o nov) hXo _ _ _ _) ck_Cel (hasO_o celE) rfl q_ml_Law_79 q_im_Cel_point q_se_Cel_point q_in_Cel q_co_Cel_point rfl (k := 4) ⟨rfl, rfl, by decide +kernel, ⟨Nat.le_of_ble_eq_true rfl, Nat.le_of_ble_eq_true rfl⟩, Nat.le_of_ble_eq_true rfl⟩ rfl d_law_628 ⟨by show _ ≤ 600000; omega, by show _ ≤ 7302250; omega⟩) hS (fun H locs hH hS => ?_)
  refine lv_aload_n F.1.1 F.1.2.1 d_law_631 rfl (lv_at hl 2 rfl) ?_
  refine lv_aload_n F.1.1 F.1.2.1 d_law_632 rfl (lv_at hl 0 rfl) ?_
  refine lv_iload_n F.1.1 F.1.2.1 d_law_633 rfl (lv_at hl 3 rfl) ?_
  refine lv_iconst (v := 1) F.1.1 F.1.2.1 d_law_634 (by decide) ?_
  refine lv_iadd F.1.1 F.1.2.1 d_law_635 ?_
  refine va_sld F.1.1 F.1.2.1 hX hbl hbA hS (sx (k := 1) (by omega) hLL) d_law_636 ?_
  refine lv_aload_n F.1.1 F.1.2.1 d_law_637 rfl (lv_at hl 0 rfl) ?_
  refine lv_iload_n F.1.1 F.1.2.1 d_law_638 rfl (lv_at hl 3 rfl) ?_
  refine lv_iconst (v := 2) F.1.1 F.1.2.1 d_law_639 (by decide) ?_
  refine lv_iadd F.1.1 F.1.2.1 d_law_640 ?_
  refine va_sld F.1.1 F.1.2.1 hX hbl hbA hS (sx (k := 2) (by omega) hLL) d_law_641 ?_
  refine lv_aload_n F.1.1 F.1.2.1 d_law_642 rfl (lv_at hl 0 rfl) ?_
  refine lv_iload_n F.1.1 F.1.2.1 d_law_643 rfl (lv_at hl 3 rfl) ?_
  refine lv_iconst (v := 3) F.1.1 F.1.2.1 d_law_644 (by decide) ?_
  refine lv_iadd F.1.1 F.1.2.1 d_law_645 ?_
  refine va_sld F.1.1 F.1.2.1 hX hbl hbA hS (sx (k := 3) (by omega) hLL) d_law_646 ?_
  refine lv_aload_n F.1.1 F.1.2.1 d_law_647 rfl (lv_at hl 0 rfl) ?_
  refine lv_iload_n F.1.1 F.1.2.1 d_law_648 rfl (lv_at hl 3 rfl) ?_
  refine lv_iconst (v := 4) F.1.1 F.1.2.1 d_law_649 (by decide) ?_
  refine lv_iadd F.1.1 F.1.2.1 d_law_650 ?_
  refine va_sld F.1.1 F.1.2.1 hX hbl hbA hS (sx (k := 4) (by omega) hLL) d_law_651 ?_
  refine hw_call1 (hw_runV F hL hS hH hl (c_Mod_point l D s.heap.size ad 256 o _ cel_hM σ hRs.1 hRs.2.1 hRs.2.2.1 _ _ _ _) ck_Mod (hasO_o cel_hM) rfl q_ml_Law_83 q_im_Mod_point q_se_Mod_point q_in_Mod q_co_Mod_point rfl (k := 4) ⟨rfl, rfl, by decide +kernel, ⟨Nat.le_of_ble_eq_true rfl, Nat.le_of_ble_eq_true rfl⟩, Nat.le_of_ble_eq_true rfl⟩ rfl d_law_652 ⟨by show _ ≤ 600000; omega, by show _ ≤ 7302250; omega⟩) hS (fun H locs hH hS => ?_)
  replace hH := hH.to cel_MM
  refine lv_icmp_eq (tgt := 923) F.1.1 F.1.2.1 d_law_655 (by decide) (fun ce => ?_) (fun cn => ?_)
  · exact NX ad _ _ H locs ls K S hH (st_point hRs) rfl rfl (by omega) (by omega) hS hl
  · exact absurd rfl cn
set_option maxHeartbeats 1000000 in
theorem law_room (F : fx p m c code 4 s #[Value.ref b] R_Law D) (hX : va_X b L xs s s.heap) (hbl : b < s.heap.size) (hLL : L ≤ 2562) (hi : i + 5 ≤ L) (hK : K + 3 ≤ 600000) (hSl : S + 52 ≤ 7302250) (hRs : Rs σ o) (hH : hw D s.heap.size ad (celP D ad σ (obP D ad 256 6 shMod o nov)) H) (hS : va_S (fun q => s.heap.size ≤ q) s.heap H locs) (hl : lv_has ls 4 [(0, .ref b), (1, .ref (ad 0)), (2, .ref (ad 256)), (3, .int (nI i))]) (NX : lwN p l e s m below meth c D b Q (ad 0) (ad 256) i K S) : W p l e room_1 s m #[Value.ref b] below meth c H locs K S Q (F0 m 660 ls []) := by
  have hbA : ¬ (fun q => s.heap.size ≤ q) b := Nat.not_le.mpr hbl
  have hL := Nat.le_refl s.heap.size
  have hXo := xOK_of hRs.1.1 hRs.1.2.1
  refine lv_aload_n F.1.1 F.1.2.1 d_law_660 rfl (lv_at hl 1 rfl) ?_
  refine lv_aload_n F.1.1 F.1.2.1 d_law_661 rfl (lv_at hl 0 rfl) ?_
  refine lv_iload_n F.1.1 F.1.2.1 d_law_662 rfl (lv_at hl 3 rfl) ?_
  refine lv_iconst (v := 1) F.1.1 F.1.2.1 d_law_663 (by decide) ?_
  refine lv_iadd F.1.1 F.1.2.1 d_law_664 ?_
  refine va_sld F.1.1 F.1.2.1 hX hbl hbA hS (sx (k := 1) (by omega) hLL) d_law_665 ?_
  refine lv_aload_n F.1.1 F.1.2.1 d_law_666 rfl (lv_at hl 0 rfl) ?_
  refine lv_iload_n F.1.1 F.1.2.1 d_law_667 rfl (lv_at hl 3 rfl) ?_
  refine lv_iconst (v := 2) F.1.1 F.1.2.1 d_law_668 (by decide) ?_
  refine lv_iadd F.1.1 F.1.2.1 d_law_669 ?_
  refine va_sld F.1.1 F.1.2.1 hX hbl hbA hS (sx (k := 2) (by omega) hLL) d_law_670 ?_
  refine lv_aload_n F.1.1 F.1.2.1 d_law_671 rfl (lv_at hl 0 rfl) ?_
  refine lv_iload_n F.1.1 F.1.2.1 d_law_672 rfl (lv_at hl 3 rfl) ?_
  refine lv_iconst (v := 3) F.1.1 F.1.2.1 d_law_673 (by decide) ?_
  refine lv_iadd F.1.1 F.1.2.1 d_law_674 ?_
  refine va_sld F.1.1 F.1.2.1 hX hbl hbA hS (sx (k := 3) (by omega) hLL) d_law_675 ?_
  refine hw_call1 (hw_runV F hL hS hH hl (c_Cel_room l D s.heap.size ad σ (obP D ad 256 6 shMod o nov) hXo _ _ _) ck_Cel (hasO_o celE) rfl q_ml_Law_84 q_im_Cel_room q_se_Cel_room q_in_Cel q_co_Cel_room rfl (k := 3) ⟨rfl, rfl, by decide +kernel, ⟨Nat.le_of_ble_eq_true rfl, Nat.le_of_ble_eq_true rfl⟩, Nat.le_of_ble_eq_true rfl⟩ rfl d_law_676 ⟨by show _ ≤ 600000; omega, by show _ ≤ 7302250; omega⟩) hS (fun H locs hH hS => ?_)
  refine lv_aload_n F.1.1 F.1.2.1 d_law_679 rfl (lv_at hl 2 rfl) ?_
  refine lv_aload_n F.1.1 F.1.2.1 d_law_680 rfl (lv_at hl 0 rfl) ?_
  refine lv_iload_n F.1.1 F.1.2.1 d_law_681 rfl (lv_at hl 3 rfl) ?_
  refine lv_iconst (v := 1) F.1.1 F.1.2.1 d_law_682 (by decide) ?_
  refine lv_iadd F.1.1 F.1.2.1 d_law_683 ?_
  refine va_sld F.1.1 F.1.2.1 hX hbl hbA hS (sx (k := 1) (by omega) hLL) d_law_684 ?_
  refine lv_aload_n F.1.1 F.1.2.1 d_law_685 rfl (lv_at hl 0 rfl) ?_
  refine lv_iload_n F.1.1 F.1.2.1 d_law_686 rfl (lv_at hl 3 rfl) ?_
  refine lv_iconst (v := 2) F.1.1 F.1.2.1 d_law_687 (by decide) ?_
  refine lv_iadd F.1.1 F.1.2.1 d_law_688 ?_
  refine va_sld F.1.1 F.1.2.1 hX hbl hbA hS (sx (k := 2) (by omega) hLL) d_law_689 ?_
  refine lv_aload_n F.1.1 F.1.2.1 d_law_690 rfl (lv_at hl 0 rfl) ?_
  refine lv_iload_n F.1.1 F.1.2.1 d_law_691 rfl (lv_at hl 3 rfl) ?_
  refine lv_iconst (v := 3) F.1.1 F.1.2.1 d_law_692 (by decide) ?_
  refine lv_iadd F.1.1 F.1.2.1 d_law_693 ?_
  refine va_sld F.1.1 F.1.2.1 hX hbl hbA hS (sx (k := 3) (by omega) hLL) d_law_694 ?_
  refine hw_call1 (hw_runV F hL hS hH hl (c_Mod_room l D s.heap.size ad 256 o _ cel_hM σ hRs.1 hRs.2.1 hRs.2.2.1 hRs.2.2.2.2.1 _ _ _) ck_Mod (hasO_o cel_hM) rfl q_ml_Law_88 q_im_Mod_room q_se_Mod_room q_in_Mod q_co_Mod_room rfl (k := 3) ⟨rfl, rfl, by decide +kernel, ⟨Nat.le_of_ble_eq_true rfl, Nat.le_of_ble_eq_true rfl⟩, Nat.le_of_ble_eq_true rfl⟩ rfl d_law_695 ⟨by show _ ≤ 600000; omega, by show _ ≤ 7302250; omega⟩) hS (fun H locs hH hS => ?_)
  refine W.lcmp F.1.1 F.1.2.1 d_law_698 ?_
  refine lv_if_eq (tgt := 923) F.1.1 F.1.2.1 d_law_699 (by decide) (fun ce => ?_) (fun cn => ?_)
  · exact NX ad _ _ H locs ls K S hH hRs rfl rfl (by omega) (by omega) hS hl
  · rw [lg_cmp_eq] at cn
    exact absurd rfl cn
set_option maxHeartbeats 1000000 in
theorem law_phase (F : fx p m c code 4 s #[Value.ref b] R_Law D) (hX : va_X b L xs s s.heap) (hbl : b < s.heap.size) (hLL : L ≤ 2562) (hi : i + 5 ≤ L) (hK : K + 3 ≤ 600000) (hSl : S + 52 ≤ 7302250) (hRs : Rs σ o) (hH : hw D s.heap.size ad (celP D ad σ (obP D ad 256 6 shMod o nov)) H) (hS : va_S (fun q => s.heap.size ≤ q) s.heap H locs) (hl : lv_has ls 4 [(0, .ref b), (1, .ref (ad 0)), (2, .ref (ad 256)), (3, .int (nI i))]) (NX : lwN p l e s m below meth c D b Q (ad 0) (ad 256) i K S) : W p l e room_1 s m #[Value.ref b] below meth c H locs K S Q (F0 m 704 ls []) := by
  have hbA : ¬ (fun q => s.heap.size ≤ q) b := Nat.not_le.mpr hbl
  have hL := Nat.le_refl s.heap.size
  have hXo := xOK_of hRs.1.1 hRs.1.2.1
  refine lv_aload_n F.1.1 F.1.2.1 d_law_704 rfl (lv_at hl 1 rfl) ?_
  refine lv_aload_n F.1.1 F.1.2.1 d_law_705 rfl (lv_at hl 0 rfl) ?_
  refine lv_iload_n F.1.1 F.1.2.1 d_law_706 rfl (lv_at hl 3 rfl) ?_
  refine lv_iconst (v := 1) F.1.1 F.1.2.1 d_law_707 (by decide) ?_
  refine lv_iadd F.1.1 F.1.2.1 d_law_708 ?_
  refine va_sld F.1.1 F.1.2.1 hX hbl hbA hS (sx (k := 1) (by omega) hLL) d_law_709 ?_
  refine lv_aload_n F.1.1 F.1.2.1 d_law_710 rfl (lv_at hl 0 rfl) ?_
  refine lv_iload_n F.1.1 F.1.2.1 d_law_711 rfl (lv_at hl 3 rfl) ?_
  refine lv_iconst (v := 2) F.1.1 F.1.2.1 d_law_712 (by decide) ?_
  refine lv_iadd F.1.1 F.1.2.1 d_law_713 ?_
  refine va_sld F.1.1 F.1.2.1 hX hbl hbA hS (sx (k := 2) (by omega) hLL) d_law_714 ?_
  refine lv_aload_n F.1.1 F.1.2.1 d_law_715 rfl (lv_at hl 0 rfl) ?_
  refine lv_iload_n F.1.1 F.1.2.1 d_law_716 rfl (lv_at hl 3 rfl) ?_
  refine lv_iconst (v := 3) F.1.1 F.1.2.1 d_law_717 (by decide) ?_
  refine lv_iadd F.1.1 F.1.2.1 d_law_718 ?_
  refine va_sld F.1.1 F.1.2.1 hX hbl hbA hS (sx (k := 3) (by omega) hLL) d_law_719 ?_
  refine lv_i2l F.1.1 F.1.2.1 d_law_720 rfl ?_
  refine lv_bipush (v := 32) F.1.1 F.1.2.1 d_law_721 (by decide) ?_
  refine lv_lshl F.1.1 F.1.2.1 d_law_723 rfl ?_
  refine lv_aload_n F.1.1 F.1.2.1 d_law_724 rfl (lv_at hl 0 rfl) ?_
  refine lv_iload_n F.1.1 F.1.2.1 d_law_725 rfl (lv_at hl 3 rfl) ?_
  refine lv_iconst (v := 4) F.1.1 F.1.2.1 d_law_726 (by decide) ?_
  refine lv_iadd F.1.1 F.1.2.1 d_law_727 ?_
  refine va_sld F.1.1 F.1.2.1 hX hbl hbA hS (sx (k := 4) (by omega) hLL) d_law_728 ?_
  refine lv_i2l F.1.1 F.1.2.1 d_law_729 rfl ?_
  refine lv_ldc2 F.1.1 F.1.2.1 F.1.2.2.2.1 (F.1.2.2.2.2 _ q_cl_Law_26) d_law_730 ?_
  refine lv_land F.1.1 F.1.2.1 d_law_733 ?_
  refine lv_lor F.1.1 F.1.2.1 d_law_734 ?_
  refine hw_callA (hw_runVA F hL hS hH hl (c_Cel_phase l D s.heap.size ad σ (obP D ad 256 6 shMod o nov) hXo _ _ _) ck_Cel (hasO_o celE) rfl q_ml_Law_89 q_im_Cel_phase q_se_Cel_phase q_in_Cel q_co_Cel_phase rfl (k := 3) ⟨rfl, rfl, by decide +kernel, ⟨Nat.le_of_ble_eq_true rfl, Nat.le_of_ble_eq_true rfl⟩, Nat.le_of_ble_eq_true rfl⟩ rfl d_law_735 ⟨by show _ ≤ 600000; omega, by show _ ≤ 7302250; omega⟩) hS (fun ad2 f2 H locs hB hH hS => ?_)
  obtain ⟨hx, rfl⟩ := hB
  replace hH := hH.to (by rw [obP_ad (ad' := ad2) (fun k hk => hx _ (by omega)) (fun s hs q => absurd q ((by decide : ∀ s ∈ shMod, s.1 ≠ 5) s hs))])
  have h0 : ad2 0 = ad 0 := hx 0 (by omega)
  have h1 : ad2 256 = ad 256 := hx 256 (by omega)
  rw [← h0, ← h1] at hl
  refine lv_aload_n F.1.1 F.1.2.1 d_law_738 rfl (lv_at hl 2 rfl) ?_
  refine lv_aload_n F.1.1 F.1.2.1 d_law_739 rfl (lv_at hl 0 rfl) ?_
  refine lv_iload_n F.1.1 F.1.2.1 d_law_740 rfl (lv_at hl 3 rfl) ?_
  refine lv_iconst (v := 1) F.1.1 F.1.2.1 d_law_741 (by decide) ?_
  refine lv_iadd F.1.1 F.1.2.1 d_law_742 ?_
  refine va_sld F.1.1 F.1.2.1 hX hbl hbA hS (sx (k := 1) (by omega) hLL) d_law_743 ?_
  refine lv_aload_n F.1.1 F.1.2.1 d_law_744 rfl (lv_at hl 0 rfl) ?_
  refine lv_iload_n F.1.1 F.1.2.1 d_law_745 rfl (lv_at hl 3 rfl) ?_
  refine lv_iconst (v := 2) F.1.1 F.1.2.1 d_law_746 (by decide) ?_
  refine lv_iadd F.1.1 F.1.2.1 d_law_747 ?_
  refine va_sld F.1.1 F.1.2.1 hX hbl hbA hS (sx (k := 2) (by omega) hLL) d_law_748 ?_
  refine lv_aload_n F.1.1 F.1.2.1 d_law_749 rfl (lv_at hl 0 rfl) ?_
  refine lv_iload_n F.1.1 F.1.2.1 d_law_750 rfl (lv_at hl 3 rfl) ?_
  refine lv_iconst (v := 3) F.1.1 F.1.2.1 d_law_751 (by decide) ?_
  refine lv_iadd F.1.1 F.1.2.1 d_law_752 ?_
  refine va_sld F.1.1 F.1.2.1 hX hbl hbA hS (sx (k := 3) (by omega) hLL) d_law_753 ?_
  refine lv_i2l F.1.1 F.1.2.1 d_law_754 rfl ?_
  refine lv_bipush (v := 32) F.1.1 F.1.2.1 d_law_755 (by decide) ?_
  refine lv_lshl F.1.1 F.1.2.1 d_law_757 rfl ?_
  refine lv_aload_n F.1.1 F.1.2.1 d_law_758 rfl (lv_at hl 0 rfl) ?_
  refine lv_iload_n F.1.1 F.1.2.1 d_law_759 rfl (lv_at hl 3 rfl) ?_
  refine lv_iconst (v := 4) F.1.1 F.1.2.1 d_law_760 (by decide) ?_
  refine lv_iadd F.1.1 F.1.2.1 d_law_761 ?_
  refine va_sld F.1.1 F.1.2.1 hX hbl hbA hS (sx (k := 4) (by omega) hLL) d_law_762 ?_
  refine lv_i2l F.1.1 F.1.2.1 d_law_763 rfl ?_
  refine lv_ldc2 F.1.1 F.1.2.1 F.1.2.2.2.1 (F.1.2.2.2.2 _ q_cl_Law_26) d_law_764 ?_
  refine lv_land F.1.1 F.1.2.1 d_law_767 ?_
  refine lv_lor F.1.1 F.1.2.1 d_law_768 ?_
  refine hw_call1 (hw_runV F hL hS hH hl (c_Mod_phase l D s.heap.size ad2 256 o _ cel_hM σ hRs.1 hRs.2.1 hRs.2.2.1 _ _ _) ck_Mod (hasO_o cel_hM) rfl q_ml_Law_92 q_im_Mod_phase q_se_Mod_phase q_in_Mod q_co_Mod_phase rfl (k := 3) ⟨rfl, rfl, by decide +kernel, ⟨Nat.le_of_ble_eq_true rfl, Nat.le_of_ble_eq_true rfl⟩, Nat.le_of_ble_eq_true rfl⟩ rfl d_law_769 ⟨by show _ ≤ 600000; omega, by show _ ≤ 7302250; omega⟩) hS (fun H locs hH hS => ?_)
  replace hH := hH.to cel_MM
  refine lv_icmp_eq (tgt := 923) F.1.1 F.1.2.1 d_law_772 (by decide) (fun ce => ?_) (fun cn => ?_)
  · rw [h0, h1] at hl
    exact NX ad2 _ _ H locs ls (K + 1) (S + 3) hH (st_phase hRs) h0 h1 (by omega) (by omega) hS hl
  · exact absurd rfl cn
set_option maxHeartbeats 1000000 in
theorem law_kept (F : fx p m c code 4 s #[Value.ref b] R_Law D) (hX : va_X b L xs s s.heap) (hbl : b < s.heap.size) (hLL : L ≤ 2562) (hi : i + 5 ≤ L) (hK : K + 3 ≤ 600000) (hSl : S + 52 ≤ 7302250) (hRs : Rs σ o) (hH : hw D s.heap.size ad (celP D ad σ (obP D ad 256 6 shMod o nov)) H) (hS : va_S (fun q => s.heap.size ≤ q) s.heap H locs) (hl : lv_has ls 4 [(0, .ref b), (1, .ref (ad 0)), (2, .ref (ad 256)), (3, .int (nI i))]) (NX : lwN p l e s m below meth c D b Q (ad 0) (ad 256) i K S) : W p l e room_1 s m #[Value.ref b] below meth c H locs K S Q (F0 m 777 ls []) := by
  have hbA : ¬ (fun q => s.heap.size ≤ q) b := Nat.not_le.mpr hbl
  have hL := Nat.le_refl s.heap.size
  have hXo := xOK_of hRs.1.1 hRs.1.2.1
  refine lv_aload_n F.1.1 F.1.2.1 d_law_777 rfl (lv_at hl 1 rfl) ?_
  refine lv_aload_n F.1.1 F.1.2.1 d_law_778 rfl (lv_at hl 0 rfl) ?_
  refine lv_iload_n F.1.1 F.1.2.1 d_law_779 rfl (lv_at hl 3 rfl) ?_
  refine lv_iconst (v := 1) F.1.1 F.1.2.1 d_law_780 (by decide) ?_
  refine lv_iadd F.1.1 F.1.2.1 d_law_781 ?_
  refine va_sld F.1.1 F.1.2.1 hX hbl hbA hS (sx (k := 1) (by omega) hLL) d_law_782 ?_
  refine hw_call1 (hw_runV F hL hS hH hl (c_Cel_kept l D s.heap.size ad σ (obP D ad 256 6 shMod o nov) hXo hRs.2.2.2.1 _) ck_Cel (hasO_o celE) rfl q_ml_Law_93 q_im_Cel_kept q_se_Cel_kept q_in_Cel q_co_Cel_kept rfl (k := 1) ⟨rfl, rfl, by decide +kernel, ⟨Nat.le_of_ble_eq_true rfl, Nat.le_of_ble_eq_true rfl⟩, Nat.le_of_ble_eq_true rfl⟩ rfl d_law_783 ⟨by show _ ≤ 600000; omega, by show _ ≤ 7302250; omega⟩) hS (fun H locs hH hS => ?_)
  refine lv_aload_n F.1.1 F.1.2.1 d_law_786 rfl (lv_at hl 2 rfl) ?_
  refine lv_aload_n F.1.1 F.1.2.1 d_law_787 rfl (lv_at hl 0 rfl) ?_
  refine lv_iload_n F.1.1 F.1.2.1 d_law_788 rfl (lv_at hl 3 rfl) ?_
  refine lv_iconst (v := 1) F.1.1 F.1.2.1 d_law_789 (by decide) ?_
  refine lv_iadd F.1.1 F.1.2.1 d_law_790 ?_
  refine va_sld F.1.1 F.1.2.1 hX hbl hbA hS (sx (k := 1) (by omega) hLL) d_law_791 ?_
  refine hw_call1 (hw_runV F hL hS hH hl (c_Mod_kept l D s.heap.size ad 256 o _ cel_hM σ hRs.1 hRs.2.1 hRs.2.2.1 hRs.2.2.2.1 _) ck_Mod (hasO_o cel_hM) rfl q_ml_Law_97 q_im_Mod_kept q_se_Mod_kept q_in_Mod q_co_Mod_kept rfl (k := 1) ⟨rfl, rfl, by decide +kernel, ⟨Nat.le_of_ble_eq_true rfl, Nat.le_of_ble_eq_true rfl⟩, Nat.le_of_ble_eq_true rfl⟩ rfl d_law_792 ⟨by show _ ≤ 600000; omega, by show _ ≤ 7302250; omega⟩) hS (fun H locs hH hS => ?_)
  refine lv_icmp_eq (tgt := 923) F.1.1 F.1.2.1 d_law_795 (by decide) (fun ce => ?_) (fun cn => ?_)
  · exact NX ad _ _ H locs ls K S hH hRs rfl rfl (by omega) (by omega) hS hl
  · exact absurd rfl cn
set_option maxHeartbeats 1000000 in
theorem law_crack (F : fx p m c code 4 s #[Value.ref b] R_Law D) (hX : va_X b L xs s s.heap) (hbl : b < s.heap.size) (hLL : L ≤ 2562) (hi : i + 5 ≤ L) (hK : K + 3 ≤ 600000) (hSl : S + 52 ≤ 7302250) (hRs : Rs σ o) (hH : hw D s.heap.size ad (celP D ad σ (obP D ad 256 6 shMod o nov)) H) (hS : va_S (fun q => s.heap.size ≤ q) s.heap H locs) (hl : lv_has ls 4 [(0, .ref b), (1, .ref (ad 0)), (2, .ref (ad 256)), (3, .int (nI i))]) (NX : lwN p l e s m below meth c D b Q (ad 0) (ad 256) i K S) : W p l e room_1 s m #[Value.ref b] below meth c H locs K S Q (F0 m 800 ls []) := by
  have hbA : ¬ (fun q => s.heap.size ≤ q) b := Nat.not_le.mpr hbl
  have hL := Nat.le_refl s.heap.size
  have hXo := xOK_of hRs.1.1 hRs.1.2.1
  refine lv_aload_n F.1.1 F.1.2.1 d_law_800 rfl (lv_at hl 1 rfl) ?_
  refine lv_aload_n F.1.1 F.1.2.1 d_law_801 rfl (lv_at hl 0 rfl) ?_
  refine lv_iload_n F.1.1 F.1.2.1 d_law_802 rfl (lv_at hl 3 rfl) ?_
  refine lv_iconst (v := 1) F.1.1 F.1.2.1 d_law_803 (by decide) ?_
  refine lv_iadd F.1.1 F.1.2.1 d_law_804 ?_
  refine va_sld F.1.1 F.1.2.1 hX hbl hbA hS (sx (k := 1) (by omega) hLL) d_law_805 ?_
  refine lv_aload_n F.1.1 F.1.2.1 d_law_806 rfl (lv_at hl 0 rfl) ?_
  refine lv_iload_n F.1.1 F.1.2.1 d_law_807 rfl (lv_at hl 3 rfl) ?_
  refine lv_iconst (v := 2) F.1.1 F.1.2.1 d_law_808 (by decide) ?_
  refine lv_iadd F.1.1 F.1.2.1 d_law_809 ?_
  refine va_sld F.1.1 F.1.2.1 hX hbl hbA hS (sx (k := 2) (by omega) hLL) d_law_810 ?_
  refine lv_i2l F.1.1 F.1.2.1 d_law_811 rfl ?_
  refine lv_bipush (v := 32) F.1.1 F.1.2.1 d_law_812 (by decide) ?_
  refine lv_lshl F.1.1 F.1.2.1 d_law_814 rfl ?_
  refine lv_aload_n F.1.1 F.1.2.1 d_law_815 rfl (lv_at hl 0 rfl) ?_
  refine lv_iload_n F.1.1 F.1.2.1 d_law_816 rfl (lv_at hl 3 rfl) ?_
  refine lv_iconst (v := 3) F.1.1 F.1.2.1 d_law_817 (by decide) ?_
  refine lv_iadd F.1.1 F.1.2.1 d_law_818 ?_
  refine va_sld F.1.1 F.1.2.1 hX hbl hbA hS (sx (k := 3) (by omega) hLL) d_law_819 ?_
  refine lv_i2l F.1.1 F.1.2.1 d_law_820 rfl ?_
  refine lv_ldc2 F.1.1 F.1.2.1 F.1.2.2.2.1 (F.1.2.2.2.2 _ q_cl_Law_26) d_law_821 ?_
  refine lv_land F.1.1 F.1.2.1 d_law_824 ?_
  refine lv_lor F.1.1 F.1.2.1 d_law_825 ?_
  refine hw_call1 (hw_runV F hL hS hH hl (c_Cel_crack l D s.heap.size ad σ (obP D ad 256 6 shMod o nov) hXo _ _) ck_Cel (hasO_o celE) rfl q_ml_Law_98 q_im_Cel_crack q_se_Cel_crack q_in_Cel q_co_Cel_crack rfl (k := 2) ⟨rfl, rfl, by decide +kernel, ⟨Nat.le_of_ble_eq_true rfl, Nat.le_of_ble_eq_true rfl⟩, Nat.le_of_ble_eq_true rfl⟩ rfl d_law_826 ⟨by show _ ≤ 600000; omega, by show _ ≤ 7302250; omega⟩) hS (fun H locs hH hS => ?_)
  refine lv_aload_n F.1.1 F.1.2.1 d_law_829 rfl (lv_at hl 2 rfl) ?_
  refine lv_aload_n F.1.1 F.1.2.1 d_law_830 rfl (lv_at hl 0 rfl) ?_
  refine lv_iload_n F.1.1 F.1.2.1 d_law_831 rfl (lv_at hl 3 rfl) ?_
  refine lv_iconst (v := 1) F.1.1 F.1.2.1 d_law_832 (by decide) ?_
  refine lv_iadd F.1.1 F.1.2.1 d_law_833 ?_
  refine va_sld F.1.1 F.1.2.1 hX hbl hbA hS (sx (k := 1) (by omega) hLL) d_law_834 ?_
  refine lv_aload_n F.1.1 F.1.2.1 d_law_835 rfl (lv_at hl 0 rfl) ?_
  refine lv_iload_n F.1.1 F.1.2.1 d_law_836 rfl (lv_at hl 3 rfl) ?_
  refine lv_iconst (v := 2) F.1.1 F.1.2.1 d_law_837 (by decide) ?_
  refine lv_iadd F.1.1 F.1.2.1 d_law_838 ?_
  refine va_sld F.1.1 F.1.2.1 hX hbl hbA hS (sx (k := 2) (by omega) hLL) d_law_839 ?_
  refine lv_i2l F.1.1 F.1.2.1 d_law_840 rfl ?_
  refine lv_bipush (v := 32) F.1.1 F.1.2.1 d_law_841 (by decide) ?_
  refine lv_lshl F.1.1 F.1.2.1 d_law_843 rfl ?_
  refine lv_aload_n F.1.1 F.1.2.1 d_law_844 rfl (lv_at hl 0 rfl) ?_
  refine lv_iload_n F.1.1 F.1.2.1 d_law_845 rfl (lv_at hl 3 rfl) ?_
  refine lv_iconst (v := 3) F.1.1 F.1.2.1 d_law_846 (by decide) ?_
  refine lv_iadd F.1.1 F.1.2.1 d_law_847 ?_
  refine va_sld F.1.1 F.1.2.1 hX hbl hbA hS (sx (k := 3) (by omega) hLL) d_law_848 ?_
  refine lv_i2l F.1.1 F.1.2.1 d_law_849 rfl ?_
  refine lv_ldc2 F.1.1 F.1.2.1 F.1.2.2.2.1 (F.1.2.2.2.2 _ q_cl_Law_26) d_law_850 ?_
  refine lv_land F.1.1 F.1.2.1 d_law_853 ?_
  refine lv_lor F.1.1 F.1.2.1 d_law_854 ?_
  refine hw_call1 (hw_runV F hL hS hH hl (c_Mod_crack l D s.heap.size ad 256 o _ cel_hM σ hRs.1 hRs.2.1 hRs.2.2.1 _ _) ck_Mod (hasO_o cel_hM) rfl q_ml_Law_101 q_im_Mod_crack q_se_Mod_crack q_in_Mod q_co_Mod_crack rfl (k := 2) ⟨rfl, rfl, by decide +kernel, ⟨Nat.le_of_ble_eq_true rfl, Nat.le_of_ble_eq_true rfl⟩, Nat.le_of_ble_eq_true rfl⟩ rfl d_law_855 ⟨by show _ ≤ 600000; omega, by show _ ≤ 7302250; omega⟩) hS (fun H locs hH hS => ?_)
  refine lv_icmp_eq (tgt := 923) F.1.1 F.1.2.1 d_law_858 (by decide) (fun ce => ?_) (fun cn => ?_)
  · exact NX ad _ _ H locs ls K S hH hRs rfl rfl (by omega) (by omega) hS hl
  · exact absurd rfl cn
set_option maxHeartbeats 1000000 in
theorem law_factor (F : fx p m c code 4 s #[Value.ref b] R_Law D) (hX : va_X b L xs s s.heap) (hbl : b < s.heap.size) (hLL : L ≤ 2562) (hi : i + 5 ≤ L) (hK : K + 3 ≤ 600000) (hSl : S + 52 ≤ 7302250) (hRs : Rs σ o) (hH : hw D s.heap.size ad (celP D ad σ (obP D ad 256 6 shMod o nov)) H) (hS : va_S (fun q => s.heap.size ≤ q) s.heap H locs) (hl : lv_has ls 4 [(0, .ref b), (1, .ref (ad 0)), (2, .ref (ad 256)), (3, .int (nI i))]) (NX : lwN p l e s m below meth c D b Q (ad 0) (ad 256) i K S) : W p l e room_1 s m #[Value.ref b] below meth c H locs K S Q (F0 m 863 ls []) := by
  have hbA : ¬ (fun q => s.heap.size ≤ q) b := Nat.not_le.mpr hbl
  have hL := Nat.le_refl s.heap.size
  have hXo := xOK_of hRs.1.1 hRs.1.2.1
  refine lv_aload_n F.1.1 F.1.2.1 d_law_863 rfl (lv_at hl 1 rfl) ?_
  refine lv_aload_n F.1.1 F.1.2.1 d_law_864 rfl (lv_at hl 0 rfl) ?_
  refine lv_iload_n F.1.1 F.1.2.1 d_law_865 rfl (lv_at hl 3 rfl) ?_
  refine lv_iconst (v := 1) F.1.1 F.1.2.1 d_law_866 (by decide) ?_
  refine lv_iadd F.1.1 F.1.2.1 d_law_867 ?_
  refine va_sld F.1.1 F.1.2.1 hX hbl hbA hS (sx (k := 1) (by omega) hLL) d_law_868 ?_
  refine hw_call1 (hw_runV F hL hS hH hl (c_Cel_factor l D s.heap.size ad σ (obP D ad 256 6 shMod o nov) hXo _) ck_Cel (hasO_o celE) rfl q_ml_Law_102 q_im_Cel_factor q_se_Cel_factor q_in_Cel q_co_Cel_factor rfl (k := 1) ⟨rfl, rfl, by decide +kernel, ⟨Nat.le_of_ble_eq_true rfl, Nat.le_of_ble_eq_true rfl⟩, Nat.le_of_ble_eq_true rfl⟩ rfl d_law_869 ⟨by show _ ≤ 600000; omega, by show _ ≤ 7302250; omega⟩) hS (fun H locs hH hS => ?_)
  refine lv_aload_n F.1.1 F.1.2.1 d_law_872 rfl (lv_at hl 2 rfl) ?_
  refine lv_aload_n F.1.1 F.1.2.1 d_law_873 rfl (lv_at hl 0 rfl) ?_
  refine lv_iload_n F.1.1 F.1.2.1 d_law_874 rfl (lv_at hl 3 rfl) ?_
  refine lv_iconst (v := 1) F.1.1 F.1.2.1 d_law_875 (by decide) ?_
  refine lv_iadd F.1.1 F.1.2.1 d_law_876 ?_
  refine va_sld F.1.1 F.1.2.1 hX hbl hbA hS (sx (k := 1) (by omega) hLL) d_law_877 ?_
  refine hw_call1 (hw_runV F hL hS hH hl (c_Mod_factor l D s.heap.size ad 256 o _ cel_hM σ hRs.1 hRs.2.1 hRs.2.2.1 _) ck_Mod (hasO_o cel_hM) rfl q_ml_Law_105 q_im_Mod_factor q_se_Mod_factor q_in_Mod q_co_Mod_factor rfl (k := 1) ⟨rfl, rfl, by decide +kernel, ⟨Nat.le_of_ble_eq_true rfl, Nat.le_of_ble_eq_true rfl⟩, Nat.le_of_ble_eq_true rfl⟩ rfl d_law_878 ⟨by show _ ≤ 600000; omega, by show _ ≤ 7302250; omega⟩) hS (fun H locs hH hS => ?_)
  refine lv_icmp_eq (tgt := 923) F.1.1 F.1.2.1 d_law_881 (by decide) (fun ce => ?_) (fun cn => ?_)
  · exact NX ad _ _ H locs ls K S hH hRs rfl rfl (by omega) (by omega) hS hl
  · exact absurd rfl cn
set_option maxHeartbeats 1000000 in
theorem law_sum (F : fx p m c code 4 s #[Value.ref b] R_Law D) (hX : va_X b L xs s s.heap) (hbl : b < s.heap.size) (hLL : L ≤ 2562) (hi : i + 5 ≤ L) (hK : K + 3 ≤ 600000) (hSl : S + 52 ≤ 7302250) (hRs : Rs σ o) (hH : hw D s.heap.size ad (celP D ad σ (obP D ad 256 6 shMod o nov)) H) (hS : va_S (fun q => s.heap.size ≤ q) s.heap H locs) (hl : lv_has ls 4 [(0, .ref b), (1, .ref (ad 0)), (2, .ref (ad 256)), (3, .int (nI i))]) (NX : lwN p l e s m below meth c D b Q (ad 0) (ad 256) i K S) : W p l e room_1 s m #[Value.ref b] below meth c H locs K S Q (F0 m 886 ls []) := by
  have hbA : ¬ (fun q => s.heap.size ≤ q) b := Nat.not_le.mpr hbl
  have hL := Nat.le_refl s.heap.size
  have hXo := xOK_of hRs.1.1 hRs.1.2.1
  refine lv_aload_n F.1.1 F.1.2.1 d_law_886 rfl (lv_at hl 1 rfl) ?_
  refine hw_call1 (hw_runV F hL hS hH hl (c_Cel_sum l D s.heap.size ad σ (obP D ad 256 6 shMod o nov) hXo) ck_Cel (hasO_o celE) rfl q_ml_Law_106 q_im_Cel_sum q_se_Cel_sum q_in_Cel q_co_Cel_sum rfl (k := 0) ⟨rfl, rfl, by decide +kernel, ⟨Nat.le_of_ble_eq_true rfl, Nat.le_of_ble_eq_true rfl⟩, Nat.le_of_ble_eq_true rfl⟩ rfl d_law_887 ⟨by show _ ≤ 600000; omega, by show _ ≤ 7302250; omega⟩) hS (fun H locs hH hS => ?_)
  refine lv_aload_n F.1.1 F.1.2.1 d_law_890 rfl (lv_at hl 2 rfl) ?_
  refine hw_call1 (hw_runV F hL hS hH hl (c_Mod_sum l D s.heap.size ad 256 o _ cel_hM σ hRs.1 hRs.2.1 hRs.2.2.1) ck_Mod (hasO_o cel_hM) rfl q_ml_Law_110 q_im_Mod_sum q_se_Mod_sum q_in_Mod q_co_Mod_sum rfl (k := 0) ⟨rfl, rfl, by decide +kernel, ⟨Nat.le_of_ble_eq_true rfl, Nat.le_of_ble_eq_true rfl⟩, Nat.le_of_ble_eq_true rfl⟩ rfl d_law_891 ⟨by show _ ≤ 600000; omega, by show _ ≤ 7302250; omega⟩) hS (fun H locs hH hS => ?_)
  refine W.lcmp F.1.1 F.1.2.1 d_law_894 ?_
  refine lv_if_eq (tgt := 923) F.1.1 F.1.2.1 d_law_895 (by decide) (fun ce => ?_) (fun cn => ?_)
  · exact NX ad _ _ H locs ls K S hH hRs rfl rfl (by omega) (by omega) hS hl
  · rw [lg_cmp_eq] at cn
    exact absurd rfl cn
set_option maxHeartbeats 1000000 in
theorem law_fit (F : fx p m c code 4 s #[Value.ref b] R_Law D) (hX : va_X b L xs s s.heap) (hbl : b < s.heap.size) (hLL : L ≤ 2562) (hi : i + 5 ≤ L) (hK : K + 3 ≤ 600000) (hSl : S + 52 ≤ 7302250) (hRs : Rs σ o) (hH : hw D s.heap.size ad (celP D ad σ (obP D ad 256 6 shMod o nov)) H) (hS : va_S (fun q => s.heap.size ≤ q) s.heap H locs) (hl : lv_has ls 4 [(0, .ref b), (1, .ref (ad 0)), (2, .ref (ad 256)), (3, .int (nI i))]) (NX : lwN p l e s m below meth c D b Q (ad 0) (ad 256) i K S) : W p l e room_1 s m #[Value.ref b] below meth c H locs K S Q (F0 m 900 ls []) := by
  have hbA : ¬ (fun q => s.heap.size ≤ q) b := Nat.not_le.mpr hbl
  have hL := Nat.le_refl s.heap.size
  have hXo := xOK_of hRs.1.1 hRs.1.2.1
  refine lv_aload_n F.1.1 F.1.2.1 d_law_900 rfl (lv_at hl 1 rfl) ?_
  refine lv_aload_n F.1.1 F.1.2.1 d_law_901 rfl (lv_at hl 0 rfl) ?_
  refine lv_iload_n F.1.1 F.1.2.1 d_law_902 rfl (lv_at hl 3 rfl) ?_
  refine lv_iconst (v := 1) F.1.1 F.1.2.1 d_law_903 (by decide) ?_
  refine lv_iadd F.1.1 F.1.2.1 d_law_904 ?_
  refine va_sld F.1.1 F.1.2.1 hX hbl hbA hS (sx (k := 1) (by omega) hLL) d_law_905 ?_
  refine hw_call1 (hw_runV F hL hS hH hl (c_Cel_fit l D s.heap.size ad σ (obP D ad 256 6 shMod o nov) ⟨hRs.1.1, hRs.1.2.2.1⟩ _) ck_Cel (hasO_o celE) rfl q_ml_Law_111 q_im_Cel_fit q_se_Cel_fit q_in_Cel q_co_Cel_fit rfl (k := 1) ⟨rfl, rfl, by decide +kernel, ⟨Nat.le_of_ble_eq_true rfl, Nat.le_of_ble_eq_true rfl⟩, Nat.le_of_ble_eq_true rfl⟩ rfl d_law_906 ⟨by show _ ≤ 600000; omega, by show _ ≤ 7302250; omega⟩) hS (fun H locs hH hS => ?_)
  refine lv_aload_n F.1.1 F.1.2.1 d_law_909 rfl (lv_at hl 2 rfl) ?_
  refine lv_aload_n F.1.1 F.1.2.1 d_law_910 rfl (lv_at hl 0 rfl) ?_
  refine lv_iload_n F.1.1 F.1.2.1 d_law_911 rfl (lv_at hl 3 rfl) ?_
  refine lv_iconst (v := 1) F.1.1 F.1.2.1 d_law_912 (by decide) ?_
  refine lv_iadd F.1.1 F.1.2.1 d_law_913 ?_
  refine va_sld F.1.1 F.1.2.1 hX hbl hbA hS (sx (k := 1) (by omega) hLL) d_law_914 ?_
  refine hw_call1 (hw_runV F hL hS hH hl (c_Mod_fit l D s.heap.size ad 256 o _ cel_hM σ _ _ hRs.Fr _) ck_Mod (hasO_o cel_hM) rfl q_ml_Law_114 q_im_Mod_fit q_se_Mod_fit q_in_Mod q_co_Mod_fit rfl (k := 1) ⟨rfl, rfl, by decide +kernel, ⟨Nat.le_of_ble_eq_true rfl, Nat.le_of_ble_eq_true rfl⟩, Nat.le_of_ble_eq_true rfl⟩ rfl d_law_915 ⟨by show _ ≤ 600000; omega, by show _ ≤ 7302250; omega⟩) hS (fun H locs hH hS => ?_)
  replace hH := hH.to cel_MM
  refine lv_icmp_eq (tgt := 923) F.1.1 F.1.2.1 d_law_918 (by decide) (fun ce => ?_) (fun cn => ?_)
  · exact NX ad _ _ H locs ls K S hH (st_fit hRs).1 rfl rfl (by omega) (by omega) hS hl
  · exact absurd (st_fit hRs).2 cn
end LAW
