set_option maxRecDepth 100000 in
set_option maxHeartbeats 4000000 in
theorem L_0 {p : Program} {l : Launch} {e : Env} {s : State} {m : MethodId} {args : Array Value} {below : List Frame} {meth : Method} {c : Code} {cells slots : Nat} {Q : State → Prop} {Gz : zG} {M : zMem} {n : Nat} {xs : Nat → Int32} {i N : Int} (hc : zCx p s m args c cL_law 4 RL Gz) (hX : zScr Gz s n xs) (hst : zST Gz s) (hcs : cells + 3 ≤ 600000 ∧ slots + 1342 ≤ 7302250) (hi : 0 ≤ i ∧ i + 6 ≤ (n : Int)) (hI : Inv N M) (hN : N ≤ 1000)
    (kk : ∀ M2, Inv (N + 1) M2 → zJ p l e room_1 s m args below meth c Gz 4 (cells + 3) (slots + 1342) Q 938 [some (.inr 700), some (.inr 63), some (.inr 639), some (.inl i)] [] M2) : zJ p l e room_1 s m args below meth c Gz 4 cells slots Q 168 [some (.inr 700), some (.inr 63), some (.inr 639), some (.inl i)] [] M := by
  have hn := hX.2.2.2
  refine zj_aload_n (pc := 168) (x := 63) hc dL_law_168 rfl ?_
  refine zj_aload_n (pc := 169) (x := 700) hc dL_law_169 rfl ?_
  refine zj_iload_n (pc := 170) (x := i) hc dL_law_170 rfl ?_
  refine zj_iconst (pc := 171) hc dL_law_171 (zin _ rfl) ?_
  refine zj_iadd (pc := 172) hc dL_law_172 ⟨by omega, by omega⟩ ?_
  refine zj_sld (pc := 173) hc hX dL_law_173 ⟨by omega, by omega⟩ ?_
  refine zj_aload_n (pc := 174) (x := 700) hc dL_law_174 rfl ?_
  refine zj_iload_n (pc := 175) (x := i) hc dL_law_175 rfl ?_
  refine zj_iconst (pc := 176) hc dL_law_176 (zin _ rfl) ?_
  refine zj_iadd (pc := 177) hc dL_law_177 ⟨by omega, by omega⟩ ?_
  refine zj_sld (pc := 178) hc hX dL_law_178 ⟨by omega, by omega⟩ ?_
  refine zj_terms (pc := 179) (st := []) (f := 3) (lo := 69) hc hst lk_L_13 (S_X9_terms l Gz (zXs xs (i + 1)) (zXs xs (i + 2)) M _ (I_terms hI hN)) ⟨by decide, by decide⟩ (Nat.le_of_ble_eq_true rfl) ⟨by show cells + 0 ≤ 600000; omega, by show slots + 0 ≤ 7302250; omega⟩ dL_law_179 (fun r M1 h => ?_)
  refine zj_aload_n (pc := 182) (x := 639) hc dL_law_182 rfl ?_
  refine zj_aload_n (pc := 183) (x := 700) hc dL_law_183 rfl ?_
  refine zj_iload_n (pc := 184) (x := i) hc dL_law_184 rfl ?_
  refine zj_iconst (pc := 185) hc dL_law_185 (zin _ rfl) ?_
  refine zj_iadd (pc := 186) hc dL_law_186 ⟨by omega, by omega⟩ ?_
  refine zj_sld (pc := 187) hc hX dL_law_187 ⟨by omega, by omega⟩ ?_
  refine zj_aload_n (pc := 188) (x := 700) hc dL_law_188 rfl ?_
  refine zj_iload_n (pc := 189) (x := i) hc dL_law_189 rfl ?_
  refine zj_iconst (pc := 190) hc dL_law_190 (zin _ rfl) ?_
  refine zj_iadd (pc := 191) hc dL_law_191 ⟨by omega, by omega⟩ ?_
  refine zj_sld (pc := 192) hc hX dL_law_192 ⟨by omega, by omega⟩ ?_
  refine zj_vti (pc := 193) (st := [.inl r]) hc ks_X10_terms iv_X10_terms lk_L_17 (zrv_9 Gz M1) (S_X10_terms l Gz (zXs xs (i + 1)) (zXs xs (i + 2)) M1 _ h) rfl ⟨by decide, by decide⟩ (Nat.le_of_ble_eq_true rfl) ⟨by show cells + 0 + 0 ≤ 600000; omega, by show slots + 0 + 0 ≤ 7302250; omega⟩ dL_law_193 rfl (fun r2 M2 h2 => ?_)
  obtain ⟨he, hI2⟩ := h2
  refine zj_icmp_eq (pc := 196) (tgt := 938) hc dL_law_196 (by decide) (fun _ => ?_) (fun hne => absurd he hne)
  exact zj_widen (by omega) (by omega) (kk M2 hI2)
set_option maxRecDepth 100000 in
set_option maxHeartbeats 4000000 in
theorem L_1 {p : Program} {l : Launch} {e : Env} {s : State} {m : MethodId} {args : Array Value} {below : List Frame} {meth : Method} {c : Code} {cells slots : Nat} {Q : State → Prop} {Gz : zG} {M : zMem} {n : Nat} {xs : Nat → Int32} {i N : Int} (hc : zCx p s m args c cL_law 4 RL Gz) (hX : zScr Gz s n xs) (hst : zST Gz s) (hcs : cells + 3 ≤ 600000 ∧ slots + 1342 ≤ 7302250) (hi : 0 ≤ i ∧ i + 6 ≤ (n : Int)) (hI : Inv N M) (hN : N ≤ 1000)
    (kk : ∀ M2, Inv (N + 1) M2 → zJ p l e room_1 s m args below meth c Gz 4 (cells + 3) (slots + 1342) Q 938 [some (.inr 700), some (.inr 63), some (.inr 639), some (.inl i)] [] M2) : zJ p l e room_1 s m args below meth c Gz 4 cells slots Q 201 [some (.inr 700), some (.inr 63), some (.inr 639), some (.inl i)] [] M := by
  have hn := hX.2.2.2
  refine zj_aload_n (pc := 201) (x := 63) hc dL_law_201 rfl ?_
  refine zj_aload_n (pc := 202) (x := 700) hc dL_law_202 rfl ?_
  refine zj_iload_n (pc := 203) (x := i) hc dL_law_203 rfl ?_
  refine zj_iconst (pc := 204) hc dL_law_204 (zin _ rfl) ?_
  refine zj_iadd (pc := 205) hc dL_law_205 ⟨by omega, by omega⟩ ?_
  refine zj_sld (pc := 206) hc hX dL_law_206 ⟨by omega, by omega⟩ ?_
  refine zj_aload_n (pc := 207) (x := 700) hc dL_law_207 rfl ?_
  refine zj_iload_n (pc := 208) (x := i) hc dL_law_208 rfl ?_
  refine zj_iconst (pc := 209) hc dL_law_209 (zin _ rfl) ?_
  refine zj_iadd (pc := 210) hc dL_law_210 ⟨by omega, by omega⟩ ?_
  refine zj_sld (pc := 211) hc hX dL_law_211 ⟨by omega, by omega⟩ ?_
  refine zj_aload_n (pc := 212) (x := 700) hc dL_law_212 rfl ?_
  refine zj_iload_n (pc := 213) (x := i) hc dL_law_213 rfl ?_
  refine zj_iconst (pc := 214) hc dL_law_214 (zin _ rfl) ?_
  refine zj_iadd (pc := 215) hc dL_law_215 ⟨by omega, by omega⟩ ?_
  refine zj_sld (pc := 216) hc hX dL_law_216 ⟨by omega, by omega⟩ ?_
  refine zj_aload_n (pc := 217) (x := 700) hc dL_law_217 rfl ?_
  refine zj_iload_n (pc := 218) (x := i) hc dL_law_218 rfl ?_
  refine zj_iconst (pc := 219) hc dL_law_219 (zin _ rfl) ?_
  refine zj_iadd (pc := 220) hc dL_law_220 ⟨by omega, by omega⟩ ?_
  refine zj_sld (pc := 221) hc hX dL_law_221 ⟨by omega, by omega⟩ ?_
  refine zj_aload_n (pc := 222) (x := 700) hc dL_law_222 rfl ?_
  refine zj_iload_n (pc := 223) (x := i) hc dL_law_223 rfl ?_
  refine zj_iconst (pc := 224) hc dL_law_224 (zin _ rfl) ?_
  refine zj_iadd (pc := 225) hc dL_law_225 ⟨by omega, by omega⟩ ?_
  refine zj_sld (pc := 226) hc hX dL_law_226 ⟨by omega, by omega⟩ ?_
  refine zj_vti (pc := 227) (st := []) hc ks_X9_feed iv_X9_feed lk_L_18 (zrv_0 Gz M) (S_X9_feed l Gz (zXs xs (i + 1)) (zXs xs (i + 2)) (zXs xs (i + 3)) (zXs xs (i + 4)) (zXs xs (i + 5)) M _ (I_feed hI (zXs_r xs _) (zXs_r xs _) (zXs_r xs _) (zXs_r xs _) (zXs_r xs _))) rfl ⟨by decide, by decide⟩ (Nat.le_of_ble_eq_true rfl) ⟨by show cells + 0 ≤ 600000; omega, by show slots + 0 ≤ 7302250; omega⟩ dL_law_227 rfl (fun r M1 h => ?_)
  refine zj_aload_n (pc := 230) (x := 639) hc dL_law_230 rfl ?_
  refine zj_aload_n (pc := 231) (x := 700) hc dL_law_231 rfl ?_
  refine zj_iload_n (pc := 232) (x := i) hc dL_law_232 rfl ?_
  refine zj_iconst (pc := 233) hc dL_law_233 (zin _ rfl) ?_
  refine zj_iadd (pc := 234) hc dL_law_234 ⟨by omega, by omega⟩ ?_
  refine zj_sld (pc := 235) hc hX dL_law_235 ⟨by omega, by omega⟩ ?_
  refine zj_aload_n (pc := 236) (x := 700) hc dL_law_236 rfl ?_
  refine zj_iload_n (pc := 237) (x := i) hc dL_law_237 rfl ?_
  refine zj_iconst (pc := 238) hc dL_law_238 (zin _ rfl) ?_
  refine zj_iadd (pc := 239) hc dL_law_239 ⟨by omega, by omega⟩ ?_
  refine zj_sld (pc := 240) hc hX dL_law_240 ⟨by omega, by omega⟩ ?_
  refine zj_aload_n (pc := 241) (x := 700) hc dL_law_241 rfl ?_
  refine zj_iload_n (pc := 242) (x := i) hc dL_law_242 rfl ?_
  refine zj_iconst (pc := 243) hc dL_law_243 (zin _ rfl) ?_
  refine zj_iadd (pc := 244) hc dL_law_244 ⟨by omega, by omega⟩ ?_
  refine zj_sld (pc := 245) hc hX dL_law_245 ⟨by omega, by omega⟩ ?_
  refine zj_aload_n (pc := 246) (x := 700) hc dL_law_246 rfl ?_
  refine zj_iload_n (pc := 247) (x := i) hc dL_law_247 rfl ?_
  refine zj_iconst (pc := 248) hc dL_law_248 (zin _ rfl) ?_
  refine zj_iadd (pc := 249) hc dL_law_249 ⟨by omega, by omega⟩ ?_
  refine zj_sld (pc := 250) hc hX dL_law_250 ⟨by omega, by omega⟩ ?_
  refine zj_aload_n (pc := 251) (x := 700) hc dL_law_251 rfl ?_
  refine zj_iload_n (pc := 252) (x := i) hc dL_law_252 rfl ?_
  refine zj_iconst (pc := 253) hc dL_law_253 (zin _ rfl) ?_
  refine zj_iadd (pc := 254) hc dL_law_254 ⟨by omega, by omega⟩ ?_
  refine zj_sld (pc := 255) hc hX dL_law_255 ⟨by omega, by omega⟩ ?_
  refine zj_vti (pc := 256) (st := [.inl r]) hc ks_X10_feed iv_X10_feed lk_L_22 (zrv_9 Gz M1) (S_X10_feed l Gz (zXs xs (i + 1)) (zXs xs (i + 2)) (zXs xs (i + 3)) (zXs xs (i + 4)) (zXs xs (i + 5)) M1 _ h) rfl ⟨by decide, by decide⟩ (Nat.le_of_ble_eq_true rfl) ⟨by show cells + 0 + 0 ≤ 600000; omega, by show slots + 0 + 0 ≤ 7302250; omega⟩ dL_law_256 rfl (fun r2 M2 h2 => ?_)
  obtain ⟨he, hI2⟩ := h2
  refine zj_icmp_eq (pc := 259) (tgt := 938) hc dL_law_259 (by decide) (fun _ => ?_) (fun hne => absurd he hne)
  exact zj_widen (by omega) (by omega) (kk M2 hI2)
set_option maxRecDepth 100000 in
set_option maxHeartbeats 4000000 in
theorem L_2 {p : Program} {l : Launch} {e : Env} {s : State} {m : MethodId} {args : Array Value} {below : List Frame} {meth : Method} {c : Code} {cells slots : Nat} {Q : State → Prop} {Gz : zG} {M : zMem} {n : Nat} {xs : Nat → Int32} {i N : Int} (hc : zCx p s m args c cL_law 4 RL Gz) (hX : zScr Gz s n xs) (hst : zST Gz s) (hcs : cells + 3 ≤ 600000 ∧ slots + 1342 ≤ 7302250) (hi : 0 ≤ i ∧ i + 6 ≤ (n : Int)) (hI : Inv N M) (hN : N ≤ 1000)
    (kk : ∀ M2, Inv (N + 1) M2 → zJ p l e room_1 s m args below meth c Gz 4 (cells + 3) (slots + 1342) Q 938 [some (.inr 700), some (.inr 63), some (.inr 639), some (.inl i)] [] M2) : zJ p l e room_1 s m args below meth c Gz 4 cells slots Q 264 [some (.inr 700), some (.inr 63), some (.inr 639), some (.inl i)] [] M := by
  have hn := hX.2.2.2
  refine zj_aload_n (pc := 264) (x := 63) hc dL_law_264 rfl ?_
  refine zj_aload_n (pc := 265) (x := 700) hc dL_law_265 rfl ?_
  refine zj_iload_n (pc := 266) (x := i) hc dL_law_266 rfl ?_
  refine zj_iconst (pc := 267) hc dL_law_267 (zin _ rfl) ?_
  refine zj_iadd (pc := 268) hc dL_law_268 ⟨by omega, by omega⟩ ?_
  refine zj_sld (pc := 269) hc hX dL_law_269 ⟨by omega, by omega⟩ ?_
  refine zj_vti (pc := 270) (st := []) hc ks_X9_end iv_X9_end lk_L_23 (zrv_0 Gz M) (S_X9_end l Gz (zXs xs (i + 1)) M _ (I_end hI)) rfl ⟨by decide, by decide⟩ (Nat.le_of_ble_eq_true rfl) ⟨by show cells + 0 ≤ 600000; omega, by show slots + 0 ≤ 7302250; omega⟩ dL_law_270 rfl (fun r M1 h => ?_)
  refine zj_aload_n (pc := 273) (x := 639) hc dL_law_273 rfl ?_
  refine zj_aload_n (pc := 274) (x := 700) hc dL_law_274 rfl ?_
  refine zj_iload_n (pc := 275) (x := i) hc dL_law_275 rfl ?_
  refine zj_iconst (pc := 276) hc dL_law_276 (zin _ rfl) ?_
  refine zj_iadd (pc := 277) hc dL_law_277 ⟨by omega, by omega⟩ ?_
  refine zj_sld (pc := 278) hc hX dL_law_278 ⟨by omega, by omega⟩ ?_
  refine zj_vti (pc := 279) (st := [.inl r]) hc ks_X10_end iv_X10_end lk_L_27 (zrv_9 Gz M1) (S_X10_end l Gz (zXs xs (i + 1)) M1 _ h) rfl ⟨by decide, by decide⟩ (Nat.le_of_ble_eq_true rfl) ⟨by show cells + 0 + 0 ≤ 600000; omega, by show slots + 0 + 0 ≤ 7302250; omega⟩ dL_law_279 rfl (fun r2 M2 h2 => ?_)
  obtain ⟨he, hI2⟩ := h2
  refine zj_icmp_eq (pc := 282) (tgt := 938) hc dL_law_282 (by decide) (fun _ => ?_) (fun hne => absurd he hne)
  exact zj_widen (by omega) (by omega) (kk M2 hI2)
set_option maxRecDepth 100000 in
set_option maxHeartbeats 4000000 in
theorem L_3 {p : Program} {l : Launch} {e : Env} {s : State} {m : MethodId} {args : Array Value} {below : List Frame} {meth : Method} {c : Code} {cells slots : Nat} {Q : State → Prop} {Gz : zG} {M : zMem} {n : Nat} {xs : Nat → Int32} {i N : Int} (hc : zCx p s m args c cL_law 4 RL Gz) (hX : zScr Gz s n xs) (hst : zST Gz s) (hcs : cells + 3 ≤ 600000 ∧ slots + 1342 ≤ 7302250) (hi : 0 ≤ i ∧ i + 6 ≤ (n : Int)) (hI : Inv N M) (hN : N ≤ 1000)
    (kk : ∀ M2, Inv (N + 1) M2 → zJ p l e room_1 s m args below meth c Gz 4 (cells + 3) (slots + 1342) Q 938 [some (.inr 700), some (.inr 63), some (.inr 639), some (.inl i)] [] M2) : zJ p l e room_1 s m args below meth c Gz 4 cells slots Q 287 [some (.inr 700), some (.inr 63), some (.inr 639), some (.inl i)] [] M := by
  have hn := hX.2.2.2
  refine zj_aload_n (pc := 287) (x := 63) hc dL_law_287 rfl ?_
  refine zj_aload_n (pc := 288) (x := 700) hc dL_law_288 rfl ?_
  refine zj_iload_n (pc := 289) (x := i) hc dL_law_289 rfl ?_
  refine zj_iconst (pc := 290) hc dL_law_290 (zin _ rfl) ?_
  refine zj_iadd (pc := 291) hc dL_law_291 ⟨by omega, by omega⟩ ?_
  refine zj_sld (pc := 292) hc hX dL_law_292 ⟨by omega, by omega⟩ ?_
  refine zj_vti (pc := 293) (st := []) hc ks_X9_tape iv_X9_tape lk_L_28 (zrv_0 Gz M) (S_X9_tape l Gz (zXs xs (i + 1)) M _ (I_tape hI)) rfl ⟨by decide, by decide⟩ (Nat.le_of_ble_eq_true rfl) ⟨by show cells + 0 ≤ 600000; omega, by show slots + 0 ≤ 7302250; omega⟩ dL_law_293 rfl (fun r M1 h => ?_)
  obtain ⟨rfl, h⟩ := h
  refine zj_aload_n (pc := 296) (x := 639) hc dL_law_296 rfl ?_
  refine zj_aload_n (pc := 297) (x := 700) hc dL_law_297 rfl ?_
  refine zj_iload_n (pc := 298) (x := i) hc dL_law_298 rfl ?_
  refine zj_iconst (pc := 299) hc dL_law_299 (zin _ rfl) ?_
  refine zj_iadd (pc := 300) hc dL_law_300 ⟨by omega, by omega⟩ ?_
  refine zj_sld (pc := 301) hc hX dL_law_301 ⟨by omega, by omega⟩ ?_
  refine zj_vti (pc := 302) (st := [.inl r]) hc ks_X10_tape iv_X10_tape lk_L_31 (zrv_9 Gz M) (S_X10_tape l Gz (zXs xs (i + 1)) M _ h) rfl ⟨by decide, by decide⟩ (Nat.le_of_ble_eq_true rfl) ⟨by show cells + 0 + 0 ≤ 600000; omega, by show slots + 0 + 0 ≤ 7302250; omega⟩ dL_law_302 rfl (fun r2 M2 h2 => ?_)
  obtain ⟨he, hI2⟩ := h2
  refine zj_icmp_eq (pc := 305) (tgt := 938) hc dL_law_305 (by decide) (fun _ => ?_) (fun hne => absurd he hne)
  exact zj_widen (by omega) (by omega) (kk M2 hI2)
set_option maxRecDepth 100000 in
set_option maxHeartbeats 4000000 in
theorem L_4 {p : Program} {l : Launch} {e : Env} {s : State} {m : MethodId} {args : Array Value} {below : List Frame} {meth : Method} {c : Code} {cells slots : Nat} {Q : State → Prop} {Gz : zG} {M : zMem} {n : Nat} {xs : Nat → Int32} {i N : Int} (hc : zCx p s m args c cL_law 4 RL Gz) (hX : zScr Gz s n xs) (hst : zST Gz s) (hcs : cells + 3 ≤ 600000 ∧ slots + 1342 ≤ 7302250) (hi : 0 ≤ i ∧ i + 6 ≤ (n : Int)) (hI : Inv N M) (hN : N ≤ 1000)
    (kk : ∀ M2, Inv (N + 1) M2 → zJ p l e room_1 s m args below meth c Gz 4 (cells + 3) (slots + 1342) Q 938 [some (.inr 700), some (.inr 63), some (.inr 639), some (.inl i)] [] M2) : zJ p l e room_1 s m args below meth c Gz 4 cells slots Q 310 [some (.inr 700), some (.inr 63), some (.inr 639), some (.inl i)] [] M := by
  have hn := hX.2.2.2
  refine zj_aload_n (pc := 310) (x := 63) hc dL_law_310 rfl ?_
  refine zj_aload_n (pc := 311) (x := 700) hc dL_law_311 rfl ?_
  refine zj_iload_n (pc := 312) (x := i) hc dL_law_312 rfl ?_
  refine zj_iconst (pc := 313) hc dL_law_313 (zin _ rfl) ?_
  refine zj_iadd (pc := 314) hc dL_law_314 ⟨by omega, by omega⟩ ?_
  refine zj_sld (pc := 315) hc hX dL_law_315 ⟨by omega, by omega⟩ ?_
  refine zj_vti (pc := 316) (st := []) hc ks_X9_pack iv_X9_pack lk_L_32 (zrv_0 Gz M) (S_X9_pack l Gz (zXs xs (i + 1)) M _ (I_pack hI hN)) rfl ⟨by decide, by decide⟩ (Nat.le_of_ble_eq_true rfl) ⟨by show cells + 0 ≤ 600000; omega, by show slots + 0 ≤ 7302250; omega⟩ dL_law_316 rfl (fun r M1 h => ?_)
  refine zj_aload_n (pc := 319) (x := 639) hc dL_law_319 rfl ?_
  refine zj_aload_n (pc := 320) (x := 700) hc dL_law_320 rfl ?_
  refine zj_iload_n (pc := 321) (x := i) hc dL_law_321 rfl ?_
  refine zj_iconst (pc := 322) hc dL_law_322 (zin _ rfl) ?_
  refine zj_iadd (pc := 323) hc dL_law_323 ⟨by omega, by omega⟩ ?_
  refine zj_sld (pc := 324) hc hX dL_law_324 ⟨by omega, by omega⟩ ?_
  refine zj_vti (pc := 325) (st := [.inl r]) hc ks_X10_pack iv_X10_pack lk_L_35 (zrv_9 Gz M1) (S_X10_pack l Gz (zXs xs (i + 1)) M1 _ h) rfl ⟨by decide, by decide⟩ (Nat.le_of_ble_eq_true rfl) ⟨by show cells + 0 + 0 ≤ 600000; omega, by show slots + 0 + 0 ≤ 7302250; omega⟩ dL_law_325 rfl (fun r2 M2 h2 => ?_)
  obtain ⟨he, hI2⟩ := h2
  refine zj_icmp_eq (pc := 328) (tgt := 938) hc dL_law_328 (by decide) (fun _ => ?_) (fun hne => absurd he hne)
  exact zj_widen (by omega) (by omega) (kk M2 hI2)
set_option maxRecDepth 100000 in
set_option maxHeartbeats 4000000 in
theorem L_5 {p : Program} {l : Launch} {e : Env} {s : State} {m : MethodId} {args : Array Value} {below : List Frame} {meth : Method} {c : Code} {cells slots : Nat} {Q : State → Prop} {Gz : zG} {M : zMem} {n : Nat} {xs : Nat → Int32} {i N : Int} (hc : zCx p s m args c cL_law 4 RL Gz) (hX : zScr Gz s n xs) (hst : zST Gz s) (hcs : cells + 3 ≤ 600000 ∧ slots + 1342 ≤ 7302250) (hi : 0 ≤ i ∧ i + 6 ≤ (n : Int)) (hI : Inv N M) (hN : N ≤ 1000)
    (kk : ∀ M2, Inv (N + 1) M2 → zJ p l e room_1 s m args below meth c Gz 4 (cells + 3) (slots + 1342) Q 938 [some (.inr 700), some (.inr 63), some (.inr 639), some (.inl i)] [] M2) : zJ p l e room_1 s m args below meth c Gz 4 cells slots Q 333 [some (.inr 700), some (.inr 63), some (.inr 639), some (.inl i)] [] M := by
  have hn := hX.2.2.2
  refine zj_aload_n (pc := 333) (x := 63) hc dL_law_333 rfl ?_
  refine zj_aload_n (pc := 334) (x := 700) hc dL_law_334 rfl ?_
  refine zj_iload_n (pc := 335) (x := i) hc dL_law_335 rfl ?_
  refine zj_iconst (pc := 336) hc dL_law_336 (zin _ rfl) ?_
  refine zj_iadd (pc := 337) hc dL_law_337 ⟨by omega, by omega⟩ ?_
  refine zj_sld (pc := 338) hc hX dL_law_338 ⟨by omega, by omega⟩ ?_
  refine zj_vti (pc := 339) (st := []) hc ks_X9_unpack iv_X9_unpack lk_L_36 (zrv_0 Gz M) (S_X9_unpack l Gz (zXs xs (i + 1)) M _ (I_unpack hI hN)) rfl ⟨by decide, by decide⟩ (Nat.le_of_ble_eq_true rfl) ⟨by show cells + 0 ≤ 600000; omega, by show slots + 0 ≤ 7302250; omega⟩ dL_law_339 rfl (fun r M1 h => ?_)
  refine zj_aload_n (pc := 342) (x := 639) hc dL_law_342 rfl ?_
  refine zj_aload_n (pc := 343) (x := 700) hc dL_law_343 rfl ?_
  refine zj_iload_n (pc := 344) (x := i) hc dL_law_344 rfl ?_
  refine zj_iconst (pc := 345) hc dL_law_345 (zin _ rfl) ?_
  refine zj_iadd (pc := 346) hc dL_law_346 ⟨by omega, by omega⟩ ?_
  refine zj_sld (pc := 347) hc hX dL_law_347 ⟨by omega, by omega⟩ ?_
  refine zj_vti (pc := 348) (st := [.inl r]) hc ks_X10_unpack iv_X10_unpack lk_L_39 (zrv_9 Gz M1) (S_X10_unpack l Gz (zXs xs (i + 1)) M1 _ h) rfl ⟨by decide, by decide⟩ (Nat.le_of_ble_eq_true rfl) ⟨by show cells + 0 + 0 ≤ 600000; omega, by show slots + 0 + 0 ≤ 7302250; omega⟩ dL_law_348 rfl (fun r2 M2 h2 => ?_)
  obtain ⟨he, hI2⟩ := h2
  refine zj_icmp_eq (pc := 351) (tgt := 938) hc dL_law_351 (by decide) (fun _ => ?_) (fun hne => absurd he hne)
  exact zj_widen (by omega) (by omega) (kk M2 hI2)
set_option maxRecDepth 100000 in
set_option maxHeartbeats 4000000 in
theorem L_6 {p : Program} {l : Launch} {e : Env} {s : State} {m : MethodId} {args : Array Value} {below : List Frame} {meth : Method} {c : Code} {cells slots : Nat} {Q : State → Prop} {Gz : zG} {M : zMem} {n : Nat} {xs : Nat → Int32} {i N : Int} (hc : zCx p s m args c cL_law 4 RL Gz) (hX : zScr Gz s n xs) (hst : zST Gz s) (hcs : cells + 3 ≤ 600000 ∧ slots + 1342 ≤ 7302250) (hi : 0 ≤ i ∧ i + 6 ≤ (n : Int)) (hI : Inv N M) (hN : N ≤ 1000)
    (kk : ∀ M2, Inv (N + 1) M2 → zJ p l e room_1 s m args below meth c Gz 4 (cells + 3) (slots + 1342) Q 938 [some (.inr 700), some (.inr 63), some (.inr 639), some (.inl i)] [] M2) : zJ p l e room_1 s m args below meth c Gz 4 cells slots Q 356 [some (.inr 700), some (.inr 63), some (.inr 639), some (.inl i)] [] M := by
  have hn := hX.2.2.2
  refine zj_aload_n (pc := 356) (x := 63) hc dL_law_356 rfl ?_
  refine zj_vti (pc := 357) (st := []) hc ks_X9_flaw iv_X9_flaw lk_L_40 (zrv_0 Gz M) (S_X9_flaw l Gz  M _ (I_flaw hI)) rfl ⟨by decide, by decide⟩ (Nat.le_of_ble_eq_true rfl) ⟨by show cells + 0 ≤ 600000; omega, by show slots + 0 ≤ 7302250; omega⟩ dL_law_357 rfl (fun r M1 h => ?_)
  obtain ⟨rfl, h⟩ := h
  refine zj_aload_n (pc := 360) (x := 639) hc dL_law_360 rfl ?_
  refine zj_vti (pc := 361) (st := [.inl r]) hc ks_X10_flaw iv_X10_flaw lk_L_44 (zrv_9 Gz M) (S_X10_flaw l Gz  M _ h) rfl ⟨by decide, by decide⟩ (Nat.le_of_ble_eq_true rfl) ⟨by show cells + 0 + 0 ≤ 600000; omega, by show slots + 0 + 0 ≤ 7302250; omega⟩ dL_law_361 rfl (fun r2 M2 h2 => ?_)
  obtain ⟨he, hI2⟩ := h2
  refine zj_icmp_eq (pc := 364) (tgt := 938) hc dL_law_364 (by decide) (fun _ => ?_) (fun hne => absurd he hne)
  exact zj_widen (by omega) (by omega) (kk M2 hI2)
set_option maxRecDepth 100000 in
set_option maxHeartbeats 4000000 in
theorem L_7 {p : Program} {l : Launch} {e : Env} {s : State} {m : MethodId} {args : Array Value} {below : List Frame} {meth : Method} {c : Code} {cells slots : Nat} {Q : State → Prop} {Gz : zG} {M : zMem} {n : Nat} {xs : Nat → Int32} {i N : Int} (hc : zCx p s m args c cL_law 4 RL Gz) (hX : zScr Gz s n xs) (hst : zST Gz s) (hcs : cells + 3 ≤ 600000 ∧ slots + 1342 ≤ 7302250) (hi : 0 ≤ i ∧ i + 6 ≤ (n : Int)) (hI : Inv N M) (hN : N ≤ 1000)
    (kk : ∀ M2, Inv (N + 1) M2 → zJ p l e room_1 s m args below meth c Gz 4 (cells + 3) (slots + 1342) Q 938 [some (.inr 700), some (.inr 63), some (.inr 639), some (.inl i)] [] M2) : zJ p l e room_1 s m args below meth c Gz 4 cells slots Q 369 [some (.inr 700), some (.inr 63), some (.inr 639), some (.inl i)] [] M := by
  have hn := hX.2.2.2
  refine zj_aload_n (pc := 369) (x := 63) hc dL_law_369 rfl ?_
  refine zj_aload_n (pc := 370) (x := 700) hc dL_law_370 rfl ?_
  refine zj_iload_n (pc := 371) (x := i) hc dL_law_371 rfl ?_
  refine zj_iconst (pc := 372) hc dL_law_372 (zin _ rfl) ?_
  refine zj_iadd (pc := 373) hc dL_law_373 ⟨by omega, by omega⟩ ?_
  refine zj_sld (pc := 374) hc hX dL_law_374 ⟨by omega, by omega⟩ ?_
  refine zj_vti (pc := 375) (st := []) hc ks_X9_put iv_X9_put lk_L_45 (zrv_0 Gz M) (S_X9_put l Gz (zXs xs (i + 1)) M _ (I_put hI hN)) rfl ⟨by decide, by decide⟩ (Nat.le_of_ble_eq_true rfl) ⟨by show cells + 3 ≤ 600000; omega, by show slots + 1342 ≤ 7302250; omega⟩ dL_law_375 rfl (fun r M1 h => ?_)
  refine zj_aload_n (pc := 378) (x := 639) hc dL_law_378 rfl ?_
  refine zj_aload_n (pc := 379) (x := 700) hc dL_law_379 rfl ?_
  refine zj_iload_n (pc := 380) (x := i) hc dL_law_380 rfl ?_
  refine zj_iconst (pc := 381) hc dL_law_381 (zin _ rfl) ?_
  refine zj_iadd (pc := 382) hc dL_law_382 ⟨by omega, by omega⟩ ?_
  refine zj_sld (pc := 383) hc hX dL_law_383 ⟨by omega, by omega⟩ ?_
  refine zj_vti (pc := 384) (st := [.inl r]) hc ks_X10_put iv_X10_put lk_L_48 (zrv_9 Gz M1) (S_X10_put l Gz (zXs xs (i + 1)) M1 _ h) rfl ⟨by decide, by decide⟩ (Nat.le_of_ble_eq_true rfl) ⟨by show cells + 3 + 0 ≤ 600000; omega, by show slots + 1342 + 0 ≤ 7302250; omega⟩ dL_law_384 rfl (fun r2 M2 h2 => ?_)
  obtain ⟨he, hI2⟩ := h2
  refine zj_icmp_eq (pc := 387) (tgt := 938) hc dL_law_387 (by decide) (fun _ => ?_) (fun hne => absurd he hne)
  exact zj_widen (by omega) (by omega) (kk M2 hI2)
set_option maxRecDepth 100000 in
set_option maxHeartbeats 4000000 in
theorem L_8 {p : Program} {l : Launch} {e : Env} {s : State} {m : MethodId} {args : Array Value} {below : List Frame} {meth : Method} {c : Code} {cells slots : Nat} {Q : State → Prop} {Gz : zG} {M : zMem} {n : Nat} {xs : Nat → Int32} {i N : Int} (hc : zCx p s m args c cL_law 4 RL Gz) (hX : zScr Gz s n xs) (hst : zST Gz s) (hcs : cells + 3 ≤ 600000 ∧ slots + 1342 ≤ 7302250) (hi : 0 ≤ i ∧ i + 6 ≤ (n : Int)) (hI : Inv N M) (hN : N ≤ 1000)
    (kk : ∀ M2, Inv (N + 1) M2 → zJ p l e room_1 s m args below meth c Gz 4 (cells + 3) (slots + 1342) Q 938 [some (.inr 700), some (.inr 63), some (.inr 639), some (.inl i)] [] M2) : zJ p l e room_1 s m args below meth c Gz 4 cells slots Q 392 [some (.inr 700), some (.inr 63), some (.inr 639), some (.inl i)] [] M := by
  have hn := hX.2.2.2
  refine zj_aload_n (pc := 392) (x := 63) hc dL_law_392 rfl ?_
  refine zj_aload_n (pc := 393) (x := 700) hc dL_law_393 rfl ?_
  refine zj_iload_n (pc := 394) (x := i) hc dL_law_394 rfl ?_
  refine zj_iconst (pc := 395) hc dL_law_395 (zin _ rfl) ?_
  refine zj_iadd (pc := 396) hc dL_law_396 ⟨by omega, by omega⟩ ?_
  refine zj_sld (pc := 397) hc hX dL_law_397 ⟨by omega, by omega⟩ ?_
  refine zj_vti (pc := 398) (st := []) hc ks_X9_grow iv_X9_grow lk_L_49 (zrv_0 Gz M) (S_X9_grow l Gz (zXs xs (i + 1)) M _ (I_grow hI hN)) rfl ⟨by decide, by decide⟩ (Nat.le_of_ble_eq_true rfl) ⟨by show cells + 3 ≤ 600000; omega, by show slots + 1342 ≤ 7302250; omega⟩ dL_law_398 rfl (fun r M1 h => ?_)
  refine zj_aload_n (pc := 401) (x := 639) hc dL_law_401 rfl ?_
  refine zj_aload_n (pc := 402) (x := 700) hc dL_law_402 rfl ?_
  refine zj_iload_n (pc := 403) (x := i) hc dL_law_403 rfl ?_
  refine zj_iconst (pc := 404) hc dL_law_404 (zin _ rfl) ?_
  refine zj_iadd (pc := 405) hc dL_law_405 ⟨by omega, by omega⟩ ?_
  refine zj_sld (pc := 406) hc hX dL_law_406 ⟨by omega, by omega⟩ ?_
  refine zj_vti (pc := 407) (st := [.inl r]) hc ks_X10_grow iv_X10_grow lk_L_52 (zrv_9 Gz M1) (S_X10_grow l Gz (zXs xs (i + 1)) M1 _ h) rfl ⟨by decide, by decide⟩ (Nat.le_of_ble_eq_true rfl) ⟨by show cells + 3 + 0 ≤ 600000; omega, by show slots + 1342 + 0 ≤ 7302250; omega⟩ dL_law_407 rfl (fun r2 M2 h2 => ?_)
  obtain ⟨he, hI2⟩ := h2
  refine zj_icmp_eq (pc := 410) (tgt := 938) hc dL_law_410 (by decide) (fun _ => ?_) (fun hne => absurd he hne)
  exact zj_widen (by omega) (by omega) (kk M2 hI2)
set_option maxRecDepth 100000 in
set_option maxHeartbeats 4000000 in
theorem L_9 {p : Program} {l : Launch} {e : Env} {s : State} {m : MethodId} {args : Array Value} {below : List Frame} {meth : Method} {c : Code} {cells slots : Nat} {Q : State → Prop} {Gz : zG} {M : zMem} {n : Nat} {xs : Nat → Int32} {i N : Int} (hc : zCx p s m args c cL_law 4 RL Gz) (hX : zScr Gz s n xs) (hst : zST Gz s) (hcs : cells + 3 ≤ 600000 ∧ slots + 1342 ≤ 7302250) (hi : 0 ≤ i ∧ i + 6 ≤ (n : Int)) (hI : Inv N M) (hN : N ≤ 1000)
    (kk : ∀ M2, Inv (N + 1) M2 → zJ p l e room_1 s m args below meth c Gz 4 (cells + 3) (slots + 1342) Q 938 [some (.inr 700), some (.inr 63), some (.inr 639), some (.inl i)] [] M2) : zJ p l e room_1 s m args below meth c Gz 4 cells slots Q 415 [some (.inr 700), some (.inr 63), some (.inr 639), some (.inl i)] [] M := by
  have hn := hX.2.2.2
  refine zj_aload_n (pc := 415) (x := 63) hc dL_law_415 rfl ?_
  refine zj_aload_n (pc := 416) (x := 700) hc dL_law_416 rfl ?_
  refine zj_iload_n (pc := 417) (x := i) hc dL_law_417 rfl ?_
  refine zj_iconst (pc := 418) hc dL_law_418 (zin _ rfl) ?_
  refine zj_iadd (pc := 419) hc dL_law_419 ⟨by omega, by omega⟩ ?_
  refine zj_sld (pc := 420) hc hX dL_law_420 ⟨by omega, by omega⟩ ?_
  refine zj_aload_n (pc := 421) (x := 700) hc dL_law_421 rfl ?_
  refine zj_iload_n (pc := 422) (x := i) hc dL_law_422 rfl ?_
  refine zj_iconst (pc := 423) hc dL_law_423 (zin _ rfl) ?_
  refine zj_iadd (pc := 424) hc dL_law_424 ⟨by omega, by omega⟩ ?_
  refine zj_sld (pc := 425) hc hX dL_law_425 ⟨by omega, by omega⟩ ?_
  refine zj_aload_n (pc := 426) (x := 700) hc dL_law_426 rfl ?_
  refine zj_iload_n (pc := 427) (x := i) hc dL_law_427 rfl ?_
  refine zj_iconst (pc := 428) hc dL_law_428 (zin _ rfl) ?_
  refine zj_iadd (pc := 429) hc dL_law_429 ⟨by omega, by omega⟩ ?_
  refine zj_sld (pc := 430) hc hX dL_law_430 ⟨by omega, by omega⟩ ?_
  refine zj_vti (pc := 431) (st := []) hc ks_X9_alter iv_X9_alter lk_L_53 (zrv_0 Gz M) (S_X9_alter l Gz (zXs xs (i + 1)) (zXs xs (i + 2)) (zXs xs (i + 3)) M _ (I_alter hI hN)) rfl ⟨by decide, by decide⟩ (Nat.le_of_ble_eq_true rfl) ⟨by show cells + 3 ≤ 600000; omega, by show slots + 1342 ≤ 7302250; omega⟩ dL_law_431 rfl (fun r M1 h => ?_)
  refine zj_aload_n (pc := 434) (x := 639) hc dL_law_434 rfl ?_
  refine zj_aload_n (pc := 435) (x := 700) hc dL_law_435 rfl ?_
  refine zj_iload_n (pc := 436) (x := i) hc dL_law_436 rfl ?_
  refine zj_iconst (pc := 437) hc dL_law_437 (zin _ rfl) ?_
  refine zj_iadd (pc := 438) hc dL_law_438 ⟨by omega, by omega⟩ ?_
  refine zj_sld (pc := 439) hc hX dL_law_439 ⟨by omega, by omega⟩ ?_
  refine zj_aload_n (pc := 440) (x := 700) hc dL_law_440 rfl ?_
  refine zj_iload_n (pc := 441) (x := i) hc dL_law_441 rfl ?_
  refine zj_iconst (pc := 442) hc dL_law_442 (zin _ rfl) ?_
  refine zj_iadd (pc := 443) hc dL_law_443 ⟨by omega, by omega⟩ ?_
  refine zj_sld (pc := 444) hc hX dL_law_444 ⟨by omega, by omega⟩ ?_
  refine zj_aload_n (pc := 445) (x := 700) hc dL_law_445 rfl ?_
  refine zj_iload_n (pc := 446) (x := i) hc dL_law_446 rfl ?_
  refine zj_iconst (pc := 447) hc dL_law_447 (zin _ rfl) ?_
  refine zj_iadd (pc := 448) hc dL_law_448 ⟨by omega, by omega⟩ ?_
  refine zj_sld (pc := 449) hc hX dL_law_449 ⟨by omega, by omega⟩ ?_
  refine zj_vti (pc := 450) (st := [.inl r]) hc ks_X10_alter iv_X10_alter lk_L_57 (zrv_9 Gz M1) (S_X10_alter l Gz (zXs xs (i + 1)) (zXs xs (i + 2)) (zXs xs (i + 3)) M1 _ h) rfl ⟨by decide, by decide⟩ (Nat.le_of_ble_eq_true rfl) ⟨by show cells + 3 + 0 ≤ 600000; omega, by show slots + 1342 + 0 ≤ 7302250; omega⟩ dL_law_450 rfl (fun r2 M2 h2 => ?_)
  obtain ⟨he, hI2⟩ := h2
  refine zj_icmp_eq (pc := 453) (tgt := 938) hc dL_law_453 (by decide) (fun _ => ?_) (fun hne => absurd he hne)
  exact zj_widen (by omega) (by omega) (kk M2 hI2)
set_option maxRecDepth 100000 in
set_option maxHeartbeats 4000000 in
theorem L_10 {p : Program} {l : Launch} {e : Env} {s : State} {m : MethodId} {args : Array Value} {below : List Frame} {meth : Method} {c : Code} {cells slots : Nat} {Q : State → Prop} {Gz : zG} {M : zMem} {n : Nat} {xs : Nat → Int32} {i N : Int} (hc : zCx p s m args c cL_law 4 RL Gz) (hX : zScr Gz s n xs) (hst : zST Gz s) (hcs : cells + 3 ≤ 600000 ∧ slots + 1342 ≤ 7302250) (hi : 0 ≤ i ∧ i + 6 ≤ (n : Int)) (hI : Inv N M) (hN : N ≤ 1000)
    (kk : ∀ M2, Inv (N + 1) M2 → zJ p l e room_1 s m args below meth c Gz 4 (cells + 3) (slots + 1342) Q 938 [some (.inr 700), some (.inr 63), some (.inr 639), some (.inl i)] [] M2) : zJ p l e room_1 s m args below meth c Gz 4 cells slots Q 458 [some (.inr 700), some (.inr 63), some (.inr 639), some (.inl i)] [] M := by
  have hn := hX.2.2.2
  refine zj_aload_n (pc := 458) (x := 63) hc dL_law_458 rfl ?_
  refine zj_aload_n (pc := 459) (x := 700) hc dL_law_459 rfl ?_
  refine zj_iload_n (pc := 460) (x := i) hc dL_law_460 rfl ?_
  refine zj_iconst (pc := 461) hc dL_law_461 (zin _ rfl) ?_
  refine zj_iadd (pc := 462) hc dL_law_462 ⟨by omega, by omega⟩ ?_
  refine zj_sld (pc := 463) hc hX dL_law_463 ⟨by omega, by omega⟩ ?_
  refine zj_vti (pc := 464) (st := []) hc ks_X9_erase iv_X9_erase lk_L_58 (zrv_0 Gz M) (S_X9_erase l Gz (zXs xs (i + 1)) M _ (I_erase hI hN)) rfl ⟨by decide, by decide⟩ (Nat.le_of_ble_eq_true rfl) ⟨by show cells + 3 ≤ 600000; omega, by show slots + 1342 ≤ 7302250; omega⟩ dL_law_464 rfl (fun r M1 h => ?_)
  refine zj_aload_n (pc := 467) (x := 639) hc dL_law_467 rfl ?_
  refine zj_aload_n (pc := 468) (x := 700) hc dL_law_468 rfl ?_
  refine zj_iload_n (pc := 469) (x := i) hc dL_law_469 rfl ?_
  refine zj_iconst (pc := 470) hc dL_law_470 (zin _ rfl) ?_
  refine zj_iadd (pc := 471) hc dL_law_471 ⟨by omega, by omega⟩ ?_
  refine zj_sld (pc := 472) hc hX dL_law_472 ⟨by omega, by omega⟩ ?_
  refine zj_vti (pc := 473) (st := [.inl r]) hc ks_X10_erase iv_X10_erase lk_L_61 (zrv_9 Gz M1) (S_X10_erase l Gz (zXs xs (i + 1)) M1 _ h) rfl ⟨by decide, by decide⟩ (Nat.le_of_ble_eq_true rfl) ⟨by show cells + 3 + 0 ≤ 600000; omega, by show slots + 1342 + 0 ≤ 7302250; omega⟩ dL_law_473 rfl (fun r2 M2 h2 => ?_)
  obtain ⟨he, hI2⟩ := h2
  refine zj_icmp_eq (pc := 476) (tgt := 938) hc dL_law_476 (by decide) (fun _ => ?_) (fun hne => absurd he hne)
  exact zj_widen (by omega) (by omega) (kk M2 hI2)
set_option maxRecDepth 100000 in
set_option maxHeartbeats 4000000 in
theorem L_11 {p : Program} {l : Launch} {e : Env} {s : State} {m : MethodId} {args : Array Value} {below : List Frame} {meth : Method} {c : Code} {cells slots : Nat} {Q : State → Prop} {Gz : zG} {M : zMem} {n : Nat} {xs : Nat → Int32} {i N : Int} (hc : zCx p s m args c cL_law 4 RL Gz) (hX : zScr Gz s n xs) (hst : zST Gz s) (hcs : cells + 3 ≤ 600000 ∧ slots + 1342 ≤ 7302250) (hi : 0 ≤ i ∧ i + 6 ≤ (n : Int)) (hI : Inv N M) (hN : N ≤ 1000)
    (kk : ∀ M2, Inv (N + 1) M2 → zJ p l e room_1 s m args below meth c Gz 4 (cells + 3) (slots + 1342) Q 938 [some (.inr 700), some (.inr 63), some (.inr 639), some (.inl i)] [] M2) : zJ p l e room_1 s m args below meth c Gz 4 cells slots Q 481 [some (.inr 700), some (.inr 63), some (.inr 639), some (.inl i)] [] M := by
  have hn := hX.2.2.2
  refine zj_aload_n (pc := 481) (x := 63) hc dL_law_481 rfl ?_
  refine zj_vti (pc := 482) (st := []) hc ks_X9_group iv_X9_group lk_L_62 (zrv_0 Gz M) (S_X9_group l Gz  M _ (I_group hI hN)) rfl ⟨by decide, by decide⟩ (Nat.le_of_ble_eq_true rfl) ⟨by show cells + 3 ≤ 600000; omega, by show slots + 1342 ≤ 7302250; omega⟩ dL_law_482 rfl (fun r M1 h => ?_)
  refine zj_aload_n (pc := 485) (x := 639) hc dL_law_485 rfl ?_
  refine zj_vti (pc := 486) (st := [.inl r]) hc ks_X10_group iv_X10_group lk_L_65 (zrv_9 Gz M1) (S_X10_group l Gz  M1 _ h) rfl ⟨by decide, by decide⟩ (Nat.le_of_ble_eq_true rfl) ⟨by show cells + 3 + 0 ≤ 600000; omega, by show slots + 1342 + 0 ≤ 7302250; omega⟩ dL_law_486 rfl (fun r2 M2 h2 => ?_)
  obtain ⟨he, hI2⟩ := h2
  refine zj_icmp_eq (pc := 489) (tgt := 938) hc dL_law_489 (by decide) (fun _ => ?_) (fun hne => absurd he hne)
  exact zj_widen (by omega) (by omega) (kk M2 hI2)
set_option maxRecDepth 100000 in
set_option maxHeartbeats 4000000 in
theorem L_12 {p : Program} {l : Launch} {e : Env} {s : State} {m : MethodId} {args : Array Value} {below : List Frame} {meth : Method} {c : Code} {cells slots : Nat} {Q : State → Prop} {Gz : zG} {M : zMem} {n : Nat} {xs : Nat → Int32} {i N : Int} (hc : zCx p s m args c cL_law 4 RL Gz) (hX : zScr Gz s n xs) (hst : zST Gz s) (hcs : cells + 3 ≤ 600000 ∧ slots + 1342 ≤ 7302250) (hi : 0 ≤ i ∧ i + 6 ≤ (n : Int)) (hI : Inv N M) (hN : N ≤ 1000)
    (kk : ∀ M2, Inv (N + 1) M2 → zJ p l e room_1 s m args below meth c Gz 4 (cells + 3) (slots + 1342) Q 938 [some (.inr 700), some (.inr 63), some (.inr 639), some (.inl i)] [] M2) : zJ p l e room_1 s m args below meth c Gz 4 cells slots Q 494 [some (.inr 700), some (.inr 63), some (.inr 639), some (.inl i)] [] M := by
  have hn := hX.2.2.2
  refine zj_aload_n (pc := 494) (x := 63) hc dL_law_494 rfl ?_
  refine zj_vti (pc := 495) (st := []) hc ks_X9_compact iv_X9_compact lk_L_66 (zrv_0 Gz M) (S_X9_compact l Gz  M _ (I_compact hI hN)) rfl ⟨by decide, by decide⟩ (Nat.le_of_ble_eq_true rfl) ⟨by show cells + 3 ≤ 600000; omega, by show slots + 1342 ≤ 7302250; omega⟩ dL_law_495 rfl (fun r M1 h => ?_)
  refine zj_aload_n (pc := 498) (x := 639) hc dL_law_498 rfl ?_
  refine zj_vti (pc := 499) (st := [.inl r]) hc ks_X10_compact iv_X10_compact lk_L_69 (zrv_9 Gz M1) (S_X10_compact l Gz  M1 _ h) rfl ⟨by decide, by decide⟩ (Nat.le_of_ble_eq_true rfl) ⟨by show cells + 3 + 0 ≤ 600000; omega, by show slots + 1342 + 0 ≤ 7302250; omega⟩ dL_law_499 rfl (fun r2 M2 h2 => ?_)
  obtain ⟨he, hI2⟩ := h2
  refine zj_icmp_eq (pc := 502) (tgt := 938) hc dL_law_502 (by decide) (fun _ => ?_) (fun hne => absurd he hne)
  exact zj_widen (by omega) (by omega) (kk M2 hI2)
set_option maxRecDepth 100000 in
set_option maxHeartbeats 4000000 in
theorem L_13 {p : Program} {l : Launch} {e : Env} {s : State} {m : MethodId} {args : Array Value} {below : List Frame} {meth : Method} {c : Code} {cells slots : Nat} {Q : State → Prop} {Gz : zG} {M : zMem} {n : Nat} {xs : Nat → Int32} {i N : Int} (hc : zCx p s m args c cL_law 4 RL Gz) (hX : zScr Gz s n xs) (hst : zST Gz s) (hcs : cells + 3 ≤ 600000 ∧ slots + 1342 ≤ 7302250) (hi : 0 ≤ i ∧ i + 6 ≤ (n : Int)) (hI : Inv N M) (hN : N ≤ 1000)
    (kk : ∀ M2, Inv (N + 1) M2 → zJ p l e room_1 s m args below meth c Gz 4 (cells + 3) (slots + 1342) Q 938 [some (.inr 700), some (.inr 63), some (.inr 639), some (.inl i)] [] M2) : zJ p l e room_1 s m args below meth c Gz 4 cells slots Q 507 [some (.inr 700), some (.inr 63), some (.inr 639), some (.inl i)] [] M := by
  have hn := hX.2.2.2
  refine zj_aload_n (pc := 507) (x := 63) hc dL_law_507 rfl ?_
  refine zj_aload_n (pc := 508) (x := 700) hc dL_law_508 rfl ?_
  refine zj_iload_n (pc := 509) (x := i) hc dL_law_509 rfl ?_
  refine zj_iconst (pc := 510) hc dL_law_510 (zin _ rfl) ?_
  refine zj_iadd (pc := 511) hc dL_law_511 ⟨by omega, by omega⟩ ?_
  refine zj_sld (pc := 512) hc hX dL_law_512 ⟨by omega, by omega⟩ ?_
  refine zj_vti (pc := 513) (st := []) hc ks_X9_fuse iv_X9_fuse lk_L_70 (zrv_0 Gz M) (S_X9_fuse l Gz (zXs xs (i + 1)) M _ (I_fuse hI hN (zXs_r xs _))) rfl ⟨by decide, by decide⟩ (Nat.le_of_ble_eq_true rfl) ⟨by show cells + 0 ≤ 600000; omega, by show slots + 0 ≤ 7302250; omega⟩ dL_law_513 rfl (fun r M1 h => ?_)
  refine zj_aload_n (pc := 516) (x := 639) hc dL_law_516 rfl ?_
  refine zj_aload_n (pc := 517) (x := 700) hc dL_law_517 rfl ?_
  refine zj_iload_n (pc := 518) (x := i) hc dL_law_518 rfl ?_
  refine zj_iconst (pc := 519) hc dL_law_519 (zin _ rfl) ?_
  refine zj_iadd (pc := 520) hc dL_law_520 ⟨by omega, by omega⟩ ?_
  refine zj_sld (pc := 521) hc hX dL_law_521 ⟨by omega, by omega⟩ ?_
  refine zj_vti (pc := 522) (st := [.inl r]) hc ks_X10_fuse iv_X10_fuse lk_L_73 (zrv_9 Gz M1) (S_X10_fuse l Gz (zXs xs (i + 1)) M1 _ h) rfl ⟨by decide, by decide⟩ (Nat.le_of_ble_eq_true rfl) ⟨by show cells + 0 + 0 ≤ 600000; omega, by show slots + 0 + 0 ≤ 7302250; omega⟩ dL_law_522 rfl (fun r2 M2 h2 => ?_)
  obtain ⟨he, hI2⟩ := h2
  refine zj_icmp_eq (pc := 525) (tgt := 938) hc dL_law_525 (by decide) (fun _ => ?_) (fun hne => absurd he hne)
  exact zj_widen (by omega) (by omega) (kk M2 hI2)
set_option maxRecDepth 100000 in
set_option maxHeartbeats 4000000 in
theorem L_14 {p : Program} {l : Launch} {e : Env} {s : State} {m : MethodId} {args : Array Value} {below : List Frame} {meth : Method} {c : Code} {cells slots : Nat} {Q : State → Prop} {Gz : zG} {M : zMem} {n : Nat} {xs : Nat → Int32} {i N : Int} (hc : zCx p s m args c cL_law 4 RL Gz) (hX : zScr Gz s n xs) (hst : zST Gz s) (hcs : cells + 3 ≤ 600000 ∧ slots + 1342 ≤ 7302250) (hi : 0 ≤ i ∧ i + 6 ≤ (n : Int)) (hI : Inv N M) (hN : N ≤ 1000)
    (kk : ∀ M2, Inv (N + 1) M2 → zJ p l e room_1 s m args below meth c Gz 4 (cells + 3) (slots + 1342) Q 938 [some (.inr 700), some (.inr 63), some (.inr 639), some (.inl i)] [] M2) : zJ p l e room_1 s m args below meth c Gz 4 cells slots Q 530 [some (.inr 700), some (.inr 63), some (.inr 639), some (.inl i)] [] M := by
  have hn := hX.2.2.2
  refine zj_aload_n (pc := 530) (x := 63) hc dL_law_530 rfl ?_
  refine zj_vti (pc := 531) (st := []) hc ks_X9_recover iv_X9_recover lk_L_74 (zrv_0 Gz M) (S_X9_recover l Gz  M _ (I_recover hI hN)) rfl ⟨by decide, by decide⟩ (Nat.le_of_ble_eq_true rfl) ⟨by show cells + 3 ≤ 600000; omega, by show slots + 1342 ≤ 7302250; omega⟩ dL_law_531 rfl (fun r M1 h => ?_)
  refine zj_aload_n (pc := 534) (x := 639) hc dL_law_534 rfl ?_
  refine zj_vti (pc := 535) (st := [.inl r]) hc ks_X10_recover iv_X10_recover lk_L_77 (zrv_9 Gz M1) (S_X10_recover l Gz  M1 _ h) rfl ⟨by decide, by decide⟩ (Nat.le_of_ble_eq_true rfl) ⟨by show cells + 3 + 0 ≤ 600000; omega, by show slots + 1342 + 0 ≤ 7302250; omega⟩ dL_law_535 rfl (fun r2 M2 h2 => ?_)
  obtain ⟨he, hI2⟩ := h2
  refine zj_icmp_eq (pc := 538) (tgt := 938) hc dL_law_538 (by decide) (fun _ => ?_) (fun hne => absurd he hne)
  exact zj_widen (by omega) (by omega) (kk M2 hI2)
set_option maxRecDepth 100000 in
set_option maxHeartbeats 4000000 in
theorem L_15 {p : Program} {l : Launch} {e : Env} {s : State} {m : MethodId} {args : Array Value} {below : List Frame} {meth : Method} {c : Code} {cells slots : Nat} {Q : State → Prop} {Gz : zG} {M : zMem} {n : Nat} {xs : Nat → Int32} {i N : Int} (hc : zCx p s m args c cL_law 4 RL Gz) (hX : zScr Gz s n xs) (hst : zST Gz s) (hcs : cells + 3 ≤ 600000 ∧ slots + 1342 ≤ 7302250) (hi : 0 ≤ i ∧ i + 6 ≤ (n : Int)) (hI : Inv N M) (hN : N ≤ 1000)
    (kk : ∀ M2, Inv (N + 1) M2 → zJ p l e room_1 s m args below meth c Gz 4 (cells + 3) (slots + 1342) Q 938 [some (.inr 700), some (.inr 63), some (.inr 639), some (.inl i)] [] M2) : zJ p l e room_1 s m args below meth c Gz 4 cells slots Q 543 [some (.inr 700), some (.inr 63), some (.inr 639), some (.inl i)] [] M := by
  have hn := hX.2.2.2
  refine zj_aload_n (pc := 543) (x := 63) hc dL_law_543 rfl ?_
  refine zj_vti (pc := 544) (st := []) hc ks_X9_written iv_X9_written lk_L_78 (zrv_0 Gz M) (S_X9_written l Gz  M _ (I_written hI)) rfl ⟨by decide, by decide⟩ (Nat.le_of_ble_eq_true rfl) ⟨by show cells + 0 ≤ 600000; omega, by show slots + 0 ≤ 7302250; omega⟩ dL_law_544 rfl (fun r M1 h => ?_)
  obtain ⟨rfl, h⟩ := h
  refine zj_aload_n (pc := 547) (x := 639) hc dL_law_547 rfl ?_
  refine zj_vti (pc := 548) (st := [.inl r]) hc ks_X10_written iv_X10_written lk_L_81 (zrv_9 Gz M) (S_X10_written l Gz  M _ h) rfl ⟨by decide, by decide⟩ (Nat.le_of_ble_eq_true rfl) ⟨by show cells + 0 + 0 ≤ 600000; omega, by show slots + 0 + 0 ≤ 7302250; omega⟩ dL_law_548 rfl (fun r2 M2 h2 => ?_)
  obtain ⟨he, hI2⟩ := h2
  refine zj_icmp_eq (pc := 551) (tgt := 938) hc dL_law_551 (by decide) (fun _ => ?_) (fun hne => absurd he hne)
  exact zj_widen (by omega) (by omega) (kk M2 hI2)
set_option maxRecDepth 100000 in
set_option maxHeartbeats 4000000 in
theorem L_16 {p : Program} {l : Launch} {e : Env} {s : State} {m : MethodId} {args : Array Value} {below : List Frame} {meth : Method} {c : Code} {cells slots : Nat} {Q : State → Prop} {Gz : zG} {M : zMem} {n : Nat} {xs : Nat → Int32} {i N : Int} (hc : zCx p s m args c cL_law 4 RL Gz) (hX : zScr Gz s n xs) (hst : zST Gz s) (hcs : cells + 3 ≤ 600000 ∧ slots + 1342 ≤ 7302250) (hi : 0 ≤ i ∧ i + 6 ≤ (n : Int)) (hI : Inv N M) (hN : N ≤ 1000)
    (kk : ∀ M2, Inv (N + 1) M2 → zJ p l e room_1 s m args below meth c Gz 4 (cells + 3) (slots + 1342) Q 938 [some (.inr 700), some (.inr 63), some (.inr 639), some (.inl i)] [] M2) : zJ p l e room_1 s m args below meth c Gz 4 cells slots Q 556 [some (.inr 700), some (.inr 63), some (.inr 639), some (.inl i)] [] M := by
  have hn := hX.2.2.2
  refine zj_aload_n (pc := 556) (x := 63) hc dL_law_556 rfl ?_
  refine zj_aload_n (pc := 557) (x := 700) hc dL_law_557 rfl ?_
  refine zj_iload_n (pc := 558) (x := i) hc dL_law_558 rfl ?_
  refine zj_iconst (pc := 559) hc dL_law_559 (zin _ rfl) ?_
  refine zj_iadd (pc := 560) hc dL_law_560 ⟨by omega, by omega⟩ ?_
  refine zj_sld (pc := 561) hc hX dL_law_561 ⟨by omega, by omega⟩ ?_
  refine zj_vti (pc := 562) (st := []) hc ks_X9_fetch iv_X9_fetch lk_L_82 (zrv_0 Gz M) (S_X9_fetch l Gz (zXs xs (i + 1)) M _ (I_fetch hI hN)) rfl ⟨by decide, by decide⟩ (Nat.le_of_ble_eq_true rfl) ⟨by show cells + 0 ≤ 600000; omega, by show slots + 0 ≤ 7302250; omega⟩ dL_law_562 rfl (fun r M1 h => ?_)
  refine zj_aload_n (pc := 565) (x := 639) hc dL_law_565 rfl ?_
  refine zj_aload_n (pc := 566) (x := 700) hc dL_law_566 rfl ?_
  refine zj_iload_n (pc := 567) (x := i) hc dL_law_567 rfl ?_
  refine zj_iconst (pc := 568) hc dL_law_568 (zin _ rfl) ?_
  refine zj_iadd (pc := 569) hc dL_law_569 ⟨by omega, by omega⟩ ?_
  refine zj_sld (pc := 570) hc hX dL_law_570 ⟨by omega, by omega⟩ ?_
  refine zj_vti (pc := 571) (st := [.inl r]) hc ks_X10_fetch iv_X10_fetch lk_L_85 (zrv_9 Gz M1) (S_X10_fetch l Gz (zXs xs (i + 1)) M1 _ h) rfl ⟨by decide, by decide⟩ (Nat.le_of_ble_eq_true rfl) ⟨by show cells + 0 + 0 ≤ 600000; omega, by show slots + 0 + 0 ≤ 7302250; omega⟩ dL_law_571 rfl (fun r2 M2 h2 => ?_)
  obtain ⟨he, hI2⟩ := h2
  refine zj_icmp_eq (pc := 574) (tgt := 938) hc dL_law_574 (by decide) (fun _ => ?_) (fun hne => absurd he hne)
  exact zj_widen (by omega) (by omega) (kk M2 hI2)
set_option maxRecDepth 100000 in
set_option maxHeartbeats 4000000 in
theorem L_17 {p : Program} {l : Launch} {e : Env} {s : State} {m : MethodId} {args : Array Value} {below : List Frame} {meth : Method} {c : Code} {cells slots : Nat} {Q : State → Prop} {Gz : zG} {M : zMem} {n : Nat} {xs : Nat → Int32} {i N : Int} (hc : zCx p s m args c cL_law 4 RL Gz) (hX : zScr Gz s n xs) (hst : zST Gz s) (hcs : cells + 3 ≤ 600000 ∧ slots + 1342 ≤ 7302250) (hi : 0 ≤ i ∧ i + 6 ≤ (n : Int)) (hI : Inv N M) (hN : N ≤ 1000)
    (kk : ∀ M2, Inv (N + 1) M2 → zJ p l e room_1 s m args below meth c Gz 4 (cells + 3) (slots + 1342) Q 938 [some (.inr 700), some (.inr 63), some (.inr 639), some (.inl i)] [] M2) : zJ p l e room_1 s m args below meth c Gz 4 cells slots Q 579 [some (.inr 700), some (.inr 63), some (.inr 639), some (.inl i)] [] M := by
  have hn := hX.2.2.2
  refine zj_aload_n (pc := 579) (x := 63) hc dL_law_579 rfl ?_
  refine zj_vti (pc := 580) (st := []) hc ks_X9_undo iv_X9_undo lk_L_86 (zrv_0 Gz M) (S_X9_undo l Gz  M _ (I_undo hI hN)) rfl ⟨by decide, by decide⟩ (Nat.le_of_ble_eq_true rfl) ⟨by show cells + 0 ≤ 600000; omega, by show slots + 0 ≤ 7302250; omega⟩ dL_law_580 rfl (fun r M1 h => ?_)
  refine zj_aload_n (pc := 583) (x := 639) hc dL_law_583 rfl ?_
  refine zj_vti (pc := 584) (st := [.inl r]) hc ks_X10_undo iv_X10_undo lk_L_89 (zrv_9 Gz M1) (S_X10_undo l Gz  M1 _ h) rfl ⟨by decide, by decide⟩ (Nat.le_of_ble_eq_true rfl) ⟨by show cells + 0 + 0 ≤ 600000; omega, by show slots + 0 + 0 ≤ 7302250; omega⟩ dL_law_584 rfl (fun r2 M2 h2 => ?_)
  obtain ⟨he, hI2⟩ := h2
  refine zj_icmp_eq (pc := 587) (tgt := 938) hc dL_law_587 (by decide) (fun _ => ?_) (fun hne => absurd he hne)
  exact zj_widen (by omega) (by omega) (kk M2 hI2)
set_option maxRecDepth 100000 in
set_option maxHeartbeats 4000000 in
theorem L_18 {p : Program} {l : Launch} {e : Env} {s : State} {m : MethodId} {args : Array Value} {below : List Frame} {meth : Method} {c : Code} {cells slots : Nat} {Q : State → Prop} {Gz : zG} {M : zMem} {n : Nat} {xs : Nat → Int32} {i N : Int} (hc : zCx p s m args c cL_law 4 RL Gz) (hX : zScr Gz s n xs) (hst : zST Gz s) (hcs : cells + 3 ≤ 600000 ∧ slots + 1342 ≤ 7302250) (hi : 0 ≤ i ∧ i + 6 ≤ (n : Int)) (hI : Inv N M) (hN : N ≤ 1000)
    (kk : ∀ M2, Inv (N + 1) M2 → zJ p l e room_1 s m args below meth c Gz 4 (cells + 3) (slots + 1342) Q 938 [some (.inr 700), some (.inr 63), some (.inr 639), some (.inl i)] [] M2) : zJ p l e room_1 s m args below meth c Gz 4 cells slots Q 592 [some (.inr 700), some (.inr 63), some (.inr 639), some (.inl i)] [] M := by
  have hn := hX.2.2.2
  refine zj_aload_n (pc := 592) (x := 63) hc dL_law_592 rfl ?_
  refine zj_aload_n (pc := 593) (x := 700) hc dL_law_593 rfl ?_
  refine zj_iload_n (pc := 594) (x := i) hc dL_law_594 rfl ?_
  refine zj_iconst (pc := 595) hc dL_law_595 (zin _ rfl) ?_
  refine zj_iadd (pc := 596) hc dL_law_596 ⟨by omega, by omega⟩ ?_
  refine zj_sld (pc := 597) hc hX dL_law_597 ⟨by omega, by omega⟩ ?_
  refine zj_aload_n (pc := 598) (x := 700) hc dL_law_598 rfl ?_
  refine zj_iload_n (pc := 599) (x := i) hc dL_law_599 rfl ?_
  refine zj_iconst (pc := 600) hc dL_law_600 (zin _ rfl) ?_
  refine zj_iadd (pc := 601) hc dL_law_601 ⟨by omega, by omega⟩ ?_
  refine zj_sld (pc := 602) hc hX dL_law_602 ⟨by omega, by omega⟩ ?_
  refine zj_vti (pc := 603) (st := []) hc ks_X9_value iv_X9_value lk_L_90 (zrv_0 Gz M) (S_X9_value l Gz (zXs xs (i + 1)) (zXs xs (i + 2)) M _ (I_value hI (zXs_r xs _))) rfl ⟨by decide, by decide⟩ (Nat.le_of_ble_eq_true rfl) ⟨by show cells + 0 ≤ 600000; omega, by show slots + 0 ≤ 7302250; omega⟩ dL_law_603 rfl (fun r M1 h => ?_)
  refine zj_aload_n (pc := 606) (x := 639) hc dL_law_606 rfl ?_
  refine zj_aload_n (pc := 607) (x := 700) hc dL_law_607 rfl ?_
  refine zj_iload_n (pc := 608) (x := i) hc dL_law_608 rfl ?_
  refine zj_iconst (pc := 609) hc dL_law_609 (zin _ rfl) ?_
  refine zj_iadd (pc := 610) hc dL_law_610 ⟨by omega, by omega⟩ ?_
  refine zj_sld (pc := 611) hc hX dL_law_611 ⟨by omega, by omega⟩ ?_
  refine zj_aload_n (pc := 612) (x := 700) hc dL_law_612 rfl ?_
  refine zj_iload_n (pc := 613) (x := i) hc dL_law_613 rfl ?_
  refine zj_iconst (pc := 614) hc dL_law_614 (zin _ rfl) ?_
  refine zj_iadd (pc := 615) hc dL_law_615 ⟨by omega, by omega⟩ ?_
  refine zj_sld (pc := 616) hc hX dL_law_616 ⟨by omega, by omega⟩ ?_
  refine zj_vti (pc := 617) (st := [.inl r]) hc ks_X10_value iv_X10_value lk_L_93 (zrv_9 Gz M1) (S_X10_value l Gz (zXs xs (i + 1)) (zXs xs (i + 2)) M1 _ h) rfl ⟨by decide, by decide⟩ (Nat.le_of_ble_eq_true rfl) ⟨by show cells + 0 + 0 ≤ 600000; omega, by show slots + 0 + 0 ≤ 7302250; omega⟩ dL_law_617 rfl (fun r2 M2 h2 => ?_)
  obtain ⟨he, hI2⟩ := h2
  refine zj_icmp_eq (pc := 620) (tgt := 938) hc dL_law_620 (by decide) (fun _ => ?_) (fun hne => absurd he hne)
  exact zj_widen (by omega) (by omega) (kk M2 hI2)
set_option maxRecDepth 100000 in
set_option maxHeartbeats 4000000 in
theorem L_19 {p : Program} {l : Launch} {e : Env} {s : State} {m : MethodId} {args : Array Value} {below : List Frame} {meth : Method} {c : Code} {cells slots : Nat} {Q : State → Prop} {Gz : zG} {M : zMem} {n : Nat} {xs : Nat → Int32} {i N : Int} (hc : zCx p s m args c cL_law 4 RL Gz) (hX : zScr Gz s n xs) (hst : zST Gz s) (hcs : cells + 3 ≤ 600000 ∧ slots + 1342 ≤ 7302250) (hi : 0 ≤ i ∧ i + 6 ≤ (n : Int)) (hI : Inv N M) (hN : N ≤ 1000)
    (kk : ∀ M2, Inv (N + 1) M2 → zJ p l e room_1 s m args below meth c Gz 4 (cells + 3) (slots + 1342) Q 938 [some (.inr 700), some (.inr 63), some (.inr 639), some (.inl i)] [] M2) : zJ p l e room_1 s m args below meth c Gz 4 cells slots Q 625 [some (.inr 700), some (.inr 63), some (.inr 639), some (.inl i)] [] M := by
  have hn := hX.2.2.2
  refine zj_aload_n (pc := 625) (x := 63) hc dL_law_625 rfl ?_
  refine zj_aload_n (pc := 626) (x := 700) hc dL_law_626 rfl ?_
  refine zj_iload_n (pc := 627) (x := i) hc dL_law_627 rfl ?_
  refine zj_iconst (pc := 628) hc dL_law_628 (zin _ rfl) ?_
  refine zj_iadd (pc := 629) hc dL_law_629 ⟨by omega, by omega⟩ ?_
  refine zj_sld (pc := 630) hc hX dL_law_630 ⟨by omega, by omega⟩ ?_
  refine zj_vti (pc := 631) (st := []) hc ks_X9_next iv_X9_next lk_L_94 (zrv_0 Gz M) (S_X9_next l Gz (zXs xs (i + 1)) M _ (I_next hI)) rfl ⟨by decide, by decide⟩ (Nat.le_of_ble_eq_true rfl) ⟨by show cells + 0 ≤ 600000; omega, by show slots + 0 ≤ 7302250; omega⟩ dL_law_631 rfl (fun r M1 h => ?_)
  refine zj_aload_n (pc := 634) (x := 639) hc dL_law_634 rfl ?_
  refine zj_aload_n (pc := 635) (x := 700) hc dL_law_635 rfl ?_
  refine zj_iload_n (pc := 636) (x := i) hc dL_law_636 rfl ?_
  refine zj_iconst (pc := 637) hc dL_law_637 (zin _ rfl) ?_
  refine zj_iadd (pc := 638) hc dL_law_638 ⟨by omega, by omega⟩ ?_
  refine zj_sld (pc := 639) hc hX dL_law_639 ⟨by omega, by omega⟩ ?_
  refine zj_vti (pc := 640) (st := [.inl r]) hc ks_X10_next iv_X10_next lk_L_97 (zrv_9 Gz M1) (S_X10_next l Gz (zXs xs (i + 1)) M1 _ h) rfl ⟨by decide, by decide⟩ (Nat.le_of_ble_eq_true rfl) ⟨by show cells + 0 + 0 ≤ 600000; omega, by show slots + 0 + 0 ≤ 7302250; omega⟩ dL_law_640 rfl (fun r2 M2 h2 => ?_)
  obtain ⟨he, hI2⟩ := h2
  refine zj_icmp_eq (pc := 643) (tgt := 938) hc dL_law_643 (by decide) (fun _ => ?_) (fun hne => absurd he hne)
  exact zj_widen (by omega) (by omega) (kk M2 hI2)
set_option maxRecDepth 100000 in
set_option maxHeartbeats 4000000 in
theorem L_20 {p : Program} {l : Launch} {e : Env} {s : State} {m : MethodId} {args : Array Value} {below : List Frame} {meth : Method} {c : Code} {cells slots : Nat} {Q : State → Prop} {Gz : zG} {M : zMem} {n : Nat} {xs : Nat → Int32} {i N : Int} (hc : zCx p s m args c cL_law 4 RL Gz) (hX : zScr Gz s n xs) (hst : zST Gz s) (hcs : cells + 3 ≤ 600000 ∧ slots + 1342 ≤ 7302250) (hi : 0 ≤ i ∧ i + 6 ≤ (n : Int)) (hI : Inv N M) (hN : N ≤ 1000)
    (kk : ∀ M2, Inv (N + 1) M2 → zJ p l e room_1 s m args below meth c Gz 4 (cells + 3) (slots + 1342) Q 938 [some (.inr 700), some (.inr 63), some (.inr 639), some (.inl i)] [] M2) : zJ p l e room_1 s m args below meth c Gz 4 cells slots Q 648 [some (.inr 700), some (.inr 63), some (.inr 639), some (.inl i)] [] M := by
  have hn := hX.2.2.2
  refine zj_aload_n (pc := 648) (x := 63) hc dL_law_648 rfl ?_
  refine zj_aload_n (pc := 649) (x := 700) hc dL_law_649 rfl ?_
  refine zj_iload_n (pc := 650) (x := i) hc dL_law_650 rfl ?_
  refine zj_iconst (pc := 651) hc dL_law_651 (zin _ rfl) ?_
  refine zj_iadd (pc := 652) hc dL_law_652 ⟨by omega, by omega⟩ ?_
  refine zj_sld (pc := 653) hc hX dL_law_653 ⟨by omega, by omega⟩ ?_
  refine zj_aload_n (pc := 654) (x := 700) hc dL_law_654 rfl ?_
  refine zj_iload_n (pc := 655) (x := i) hc dL_law_655 rfl ?_
  refine zj_iconst (pc := 656) hc dL_law_656 (zin _ rfl) ?_
  refine zj_iadd (pc := 657) hc dL_law_657 ⟨by omega, by omega⟩ ?_
  refine zj_sld (pc := 658) hc hX dL_law_658 ⟨by omega, by omega⟩ ?_
  refine zj_vti (pc := 659) (st := []) hc ks_X9_page iv_X9_page lk_L_98 (zrv_0 Gz M) (S_X9_page l Gz (zXs xs (i + 1)) (zXs xs (i + 2)) M _ (I_page hI)) rfl ⟨by decide, by decide⟩ (Nat.le_of_ble_eq_true rfl) ⟨by show cells + 0 ≤ 600000; omega, by show slots + 0 ≤ 7302250; omega⟩ dL_law_659 rfl (fun r M1 h => ?_)
  refine zj_aload_n (pc := 662) (x := 639) hc dL_law_662 rfl ?_
  refine zj_aload_n (pc := 663) (x := 700) hc dL_law_663 rfl ?_
  refine zj_iload_n (pc := 664) (x := i) hc dL_law_664 rfl ?_
  refine zj_iconst (pc := 665) hc dL_law_665 (zin _ rfl) ?_
  refine zj_iadd (pc := 666) hc dL_law_666 ⟨by omega, by omega⟩ ?_
  refine zj_sld (pc := 667) hc hX dL_law_667 ⟨by omega, by omega⟩ ?_
  refine zj_aload_n (pc := 668) (x := 700) hc dL_law_668 rfl ?_
  refine zj_iload_n (pc := 669) (x := i) hc dL_law_669 rfl ?_
  refine zj_iconst (pc := 670) hc dL_law_670 (zin _ rfl) ?_
  refine zj_iadd (pc := 671) hc dL_law_671 ⟨by omega, by omega⟩ ?_
  refine zj_sld (pc := 672) hc hX dL_law_672 ⟨by omega, by omega⟩ ?_
  refine zj_vti (pc := 673) (st := [.inl r]) hc ks_X10_page iv_X10_page lk_L_101 (zrv_9 Gz M1) (S_X10_page l Gz (zXs xs (i + 1)) (zXs xs (i + 2)) M1 _ h) rfl ⟨by decide, by decide⟩ (Nat.le_of_ble_eq_true rfl) ⟨by show cells + 0 + 0 ≤ 600000; omega, by show slots + 0 + 0 ≤ 7302250; omega⟩ dL_law_673 rfl (fun r2 M2 h2 => ?_)
  obtain ⟨he, hI2⟩ := h2
  refine zj_icmp_eq (pc := 676) (tgt := 938) hc dL_law_676 (by decide) (fun _ => ?_) (fun hne => absurd he hne)
  exact zj_widen (by omega) (by omega) (kk M2 hI2)
set_option maxRecDepth 100000 in
set_option maxHeartbeats 4000000 in
theorem L_21 {p : Program} {l : Launch} {e : Env} {s : State} {m : MethodId} {args : Array Value} {below : List Frame} {meth : Method} {c : Code} {cells slots : Nat} {Q : State → Prop} {Gz : zG} {M : zMem} {n : Nat} {xs : Nat → Int32} {i N : Int} (hc : zCx p s m args c cL_law 4 RL Gz) (hX : zScr Gz s n xs) (hst : zST Gz s) (hcs : cells + 3 ≤ 600000 ∧ slots + 1342 ≤ 7302250) (hi : 0 ≤ i ∧ i + 6 ≤ (n : Int)) (hI : Inv N M) (hN : N ≤ 1000)
    (kk : ∀ M2, Inv (N + 1) M2 → zJ p l e room_1 s m args below meth c Gz 4 (cells + 3) (slots + 1342) Q 938 [some (.inr 700), some (.inr 63), some (.inr 639), some (.inl i)] [] M2) : zJ p l e room_1 s m args below meth c Gz 4 cells slots Q 681 [some (.inr 700), some (.inr 63), some (.inr 639), some (.inl i)] [] M := by
  have hn := hX.2.2.2
  refine zj_aload_n (pc := 681) (x := 63) hc dL_law_681 rfl ?_
  refine zj_aload_n (pc := 682) (x := 700) hc dL_law_682 rfl ?_
  refine zj_iload_n (pc := 683) (x := i) hc dL_law_683 rfl ?_
  refine zj_iconst (pc := 684) hc dL_law_684 (zin _ rfl) ?_
  refine zj_iadd (pc := 685) hc dL_law_685 ⟨by omega, by omega⟩ ?_
  refine zj_sld (pc := 686) hc hX dL_law_686 ⟨by omega, by omega⟩ ?_
  refine zj_aload_n (pc := 687) (x := 700) hc dL_law_687 rfl ?_
  refine zj_iload_n (pc := 688) (x := i) hc dL_law_688 rfl ?_
  refine zj_iconst (pc := 689) hc dL_law_689 (zin _ rfl) ?_
  refine zj_iadd (pc := 690) hc dL_law_690 ⟨by omega, by omega⟩ ?_
  refine zj_sld (pc := 691) hc hX dL_law_691 ⟨by omega, by omega⟩ ?_
  refine zj_vti (pc := 692) (st := []) hc ks_X9_packing iv_X9_packing lk_L_102 (zrv_0 Gz M) (S_X9_packing l Gz (zXs xs (i + 1)) (zXs xs (i + 2)) M _ (I_packing hI)) rfl ⟨by decide, by decide⟩ (Nat.le_of_ble_eq_true rfl) ⟨by show cells + 0 ≤ 600000; omega, by show slots + 0 ≤ 7302250; omega⟩ dL_law_692 rfl (fun r M1 h => ?_)
  refine zj_aload_n (pc := 695) (x := 639) hc dL_law_695 rfl ?_
  refine zj_aload_n (pc := 696) (x := 700) hc dL_law_696 rfl ?_
  refine zj_iload_n (pc := 697) (x := i) hc dL_law_697 rfl ?_
  refine zj_iconst (pc := 698) hc dL_law_698 (zin _ rfl) ?_
  refine zj_iadd (pc := 699) hc dL_law_699 ⟨by omega, by omega⟩ ?_
  refine zj_sld (pc := 700) hc hX dL_law_700 ⟨by omega, by omega⟩ ?_
  refine zj_aload_n (pc := 701) (x := 700) hc dL_law_701 rfl ?_
  refine zj_iload_n (pc := 702) (x := i) hc dL_law_702 rfl ?_
  refine zj_iconst (pc := 703) hc dL_law_703 (zin _ rfl) ?_
  refine zj_iadd (pc := 704) hc dL_law_704 ⟨by omega, by omega⟩ ?_
  refine zj_sld (pc := 705) hc hX dL_law_705 ⟨by omega, by omega⟩ ?_
  refine zj_vti (pc := 706) (st := [.inl r]) hc ks_X10_packing iv_X10_packing lk_L_105 (zrv_9 Gz M1) (S_X10_packing l Gz (zXs xs (i + 1)) (zXs xs (i + 2)) M1 _ h) rfl ⟨by decide, by decide⟩ (Nat.le_of_ble_eq_true rfl) ⟨by show cells + 0 + 0 ≤ 600000; omega, by show slots + 0 + 0 ≤ 7302250; omega⟩ dL_law_706 rfl (fun r2 M2 h2 => ?_)
  obtain ⟨he, hI2⟩ := h2
  refine zj_icmp_eq (pc := 709) (tgt := 938) hc dL_law_709 (by decide) (fun _ => ?_) (fun hne => absurd he hne)
  exact zj_widen (by omega) (by omega) (kk M2 hI2)
set_option maxRecDepth 100000 in
set_option maxHeartbeats 4000000 in
theorem L_22 {p : Program} {l : Launch} {e : Env} {s : State} {m : MethodId} {args : Array Value} {below : List Frame} {meth : Method} {c : Code} {cells slots : Nat} {Q : State → Prop} {Gz : zG} {M : zMem} {n : Nat} {xs : Nat → Int32} {i N : Int} (hc : zCx p s m args c cL_law 4 RL Gz) (hX : zScr Gz s n xs) (hst : zST Gz s) (hcs : cells + 3 ≤ 600000 ∧ slots + 1342 ≤ 7302250) (hi : 0 ≤ i ∧ i + 6 ≤ (n : Int)) (hI : Inv N M) (hN : N ≤ 1000)
    (kk : ∀ M2, Inv (N + 1) M2 → zJ p l e room_1 s m args below meth c Gz 4 (cells + 3) (slots + 1342) Q 938 [some (.inr 700), some (.inr 63), some (.inr 639), some (.inl i)] [] M2) : zJ p l e room_1 s m args below meth c Gz 4 cells slots Q 714 [some (.inr 700), some (.inr 63), some (.inr 639), some (.inl i)] [] M := by
  have hn := hX.2.2.2
  refine zj_aload_n (pc := 714) (x := 63) hc dL_law_714 rfl ?_
  refine zj_aload_n (pc := 715) (x := 700) hc dL_law_715 rfl ?_
  refine zj_iload_n (pc := 716) (x := i) hc dL_law_716 rfl ?_
  refine zj_iconst (pc := 717) hc dL_law_717 (zin _ rfl) ?_
  refine zj_iadd (pc := 718) hc dL_law_718 ⟨by omega, by omega⟩ ?_
  refine zj_sld (pc := 719) hc hX dL_law_719 ⟨by omega, by omega⟩ ?_
  refine zj_aload_n (pc := 720) (x := 700) hc dL_law_720 rfl ?_
  refine zj_iload_n (pc := 721) (x := i) hc dL_law_721 rfl ?_
  refine zj_iconst (pc := 722) hc dL_law_722 (zin _ rfl) ?_
  refine zj_iadd (pc := 723) hc dL_law_723 ⟨by omega, by omega⟩ ?_
  refine zj_sld (pc := 724) hc hX dL_law_724 ⟨by omega, by omega⟩ ?_
  refine zj_aload_n (pc := 725) (x := 700) hc dL_law_725 rfl ?_
  refine zj_iload_n (pc := 726) (x := i) hc dL_law_726 rfl ?_
  refine zj_iconst (pc := 727) hc dL_law_727 (zin _ rfl) ?_
  refine zj_iadd (pc := 728) hc dL_law_728 ⟨by omega, by omega⟩ ?_
  refine zj_sld (pc := 729) hc hX dL_law_729 ⟨by omega, by omega⟩ ?_
  refine zj_vti (pc := 730) (st := []) hc ks_X9_entry iv_X9_entry lk_L_106 (zrv_0 Gz M) (S_X9_entry l Gz (zXs xs (i + 1)) (zXs xs (i + 2)) (zXs xs (i + 3)) M _ (I_entry hI (zXs_r xs _))) rfl ⟨by decide, by decide⟩ (Nat.le_of_ble_eq_true rfl) ⟨by show cells + 0 ≤ 600000; omega, by show slots + 0 ≤ 7302250; omega⟩ dL_law_730 rfl (fun r M1 h => ?_)
  obtain ⟨rfl, h⟩ := h
  refine zj_aload_n (pc := 733) (x := 639) hc dL_law_733 rfl ?_
  refine zj_aload_n (pc := 734) (x := 700) hc dL_law_734 rfl ?_
  refine zj_iload_n (pc := 735) (x := i) hc dL_law_735 rfl ?_
  refine zj_iconst (pc := 736) hc dL_law_736 (zin _ rfl) ?_
  refine zj_iadd (pc := 737) hc dL_law_737 ⟨by omega, by omega⟩ ?_
  refine zj_sld (pc := 738) hc hX dL_law_738 ⟨by omega, by omega⟩ ?_
  refine zj_aload_n (pc := 739) (x := 700) hc dL_law_739 rfl ?_
  refine zj_iload_n (pc := 740) (x := i) hc dL_law_740 rfl ?_
  refine zj_iconst (pc := 741) hc dL_law_741 (zin _ rfl) ?_
  refine zj_iadd (pc := 742) hc dL_law_742 ⟨by omega, by omega⟩ ?_
  refine zj_sld (pc := 743) hc hX dL_law_743 ⟨by omega, by omega⟩ ?_
  refine zj_aload_n (pc := 744) (x := 700) hc dL_law_744 rfl ?_
  refine zj_iload_n (pc := 745) (x := i) hc dL_law_745 rfl ?_
  refine zj_iconst (pc := 746) hc dL_law_746 (zin _ rfl) ?_
  refine zj_iadd (pc := 747) hc dL_law_747 ⟨by omega, by omega⟩ ?_
  refine zj_sld (pc := 748) hc hX dL_law_748 ⟨by omega, by omega⟩ ?_
  refine zj_vti (pc := 749) (st := [.inl r]) hc ks_X10_entry iv_X10_entry lk_L_109 (zrv_9 Gz M) (S_X10_entry l Gz (zXs xs (i + 1)) (zXs xs (i + 2)) (zXs xs (i + 3)) M _ h) rfl ⟨by decide, by decide⟩ (Nat.le_of_ble_eq_true rfl) ⟨by show cells + 0 + 0 ≤ 600000; omega, by show slots + 0 + 0 ≤ 7302250; omega⟩ dL_law_749 rfl (fun r2 M2 h2 => ?_)
  obtain ⟨he, hI2⟩ := h2
  refine zj_icmp_eq (pc := 752) (tgt := 938) hc dL_law_752 (by decide) (fun _ => ?_) (fun hne => absurd he hne)
  exact zj_widen (by omega) (by omega) (kk M2 hI2)
set_option maxRecDepth 100000 in
set_option maxHeartbeats 4000000 in
theorem L_23 {p : Program} {l : Launch} {e : Env} {s : State} {m : MethodId} {args : Array Value} {below : List Frame} {meth : Method} {c : Code} {cells slots : Nat} {Q : State → Prop} {Gz : zG} {M : zMem} {n : Nat} {xs : Nat → Int32} {i N : Int} (hc : zCx p s m args c cL_law 4 RL Gz) (hX : zScr Gz s n xs) (hst : zST Gz s) (hcs : cells + 3 ≤ 600000 ∧ slots + 1342 ≤ 7302250) (hi : 0 ≤ i ∧ i + 6 ≤ (n : Int)) (hI : Inv N M) (hN : N ≤ 1000)
    (kk : ∀ M2, Inv (N + 1) M2 → zJ p l e room_1 s m args below meth c Gz 4 (cells + 3) (slots + 1342) Q 938 [some (.inr 700), some (.inr 63), some (.inr 639), some (.inl i)] [] M2) : zJ p l e room_1 s m args below meth c Gz 4 cells slots Q 757 [some (.inr 700), some (.inr 63), some (.inr 639), some (.inl i)] [] M := by
  have hn := hX.2.2.2
  refine zj_aload_n (pc := 757) (x := 63) hc dL_law_757 rfl ?_
  refine zj_aload_n (pc := 758) (x := 700) hc dL_law_758 rfl ?_
  refine zj_iload_n (pc := 759) (x := i) hc dL_law_759 rfl ?_
  refine zj_iconst (pc := 760) hc dL_law_760 (zin _ rfl) ?_
  refine zj_iadd (pc := 761) hc dL_law_761 ⟨by omega, by omega⟩ ?_
  refine zj_sld (pc := 762) hc hX dL_law_762 ⟨by omega, by omega⟩ ?_
  refine zj_aload_n (pc := 763) (x := 700) hc dL_law_763 rfl ?_
  refine zj_iload_n (pc := 764) (x := i) hc dL_law_764 rfl ?_
  refine zj_iconst (pc := 765) hc dL_law_765 (zin _ rfl) ?_
  refine zj_iadd (pc := 766) hc dL_law_766 ⟨by omega, by omega⟩ ?_
  refine zj_sld (pc := 767) hc hX dL_law_767 ⟨by omega, by omega⟩ ?_
  refine zj_aload_n (pc := 768) (x := 700) hc dL_law_768 rfl ?_
  refine zj_iload_n (pc := 769) (x := i) hc dL_law_769 rfl ?_
  refine zj_iconst (pc := 770) hc dL_law_770 (zin _ rfl) ?_
  refine zj_iadd (pc := 771) hc dL_law_771 ⟨by omega, by omega⟩ ?_
  refine zj_sld (pc := 772) hc hX dL_law_772 ⟨by omega, by omega⟩ ?_
  refine zj_vti (pc := 773) (st := []) hc ks_X9_behind iv_X9_behind lk_L_110 (zrv_0 Gz M) (S_X9_behind l Gz (zXs xs (i + 1)) (zXs xs (i + 2)) (zXs xs (i + 3)) M _ (I_behind hI)) rfl ⟨by decide, by decide⟩ (Nat.le_of_ble_eq_true rfl) ⟨by show cells + 0 ≤ 600000; omega, by show slots + 0 ≤ 7302250; omega⟩ dL_law_773 rfl (fun r M1 h => ?_)
  refine zj_aload_n (pc := 776) (x := 639) hc dL_law_776 rfl ?_
  refine zj_aload_n (pc := 777) (x := 700) hc dL_law_777 rfl ?_
  refine zj_iload_n (pc := 778) (x := i) hc dL_law_778 rfl ?_
  refine zj_iconst (pc := 779) hc dL_law_779 (zin _ rfl) ?_
  refine zj_iadd (pc := 780) hc dL_law_780 ⟨by omega, by omega⟩ ?_
  refine zj_sld (pc := 781) hc hX dL_law_781 ⟨by omega, by omega⟩ ?_
  refine zj_aload_n (pc := 782) (x := 700) hc dL_law_782 rfl ?_
  refine zj_iload_n (pc := 783) (x := i) hc dL_law_783 rfl ?_
  refine zj_iconst (pc := 784) hc dL_law_784 (zin _ rfl) ?_
  refine zj_iadd (pc := 785) hc dL_law_785 ⟨by omega, by omega⟩ ?_
  refine zj_sld (pc := 786) hc hX dL_law_786 ⟨by omega, by omega⟩ ?_
  refine zj_aload_n (pc := 787) (x := 700) hc dL_law_787 rfl ?_
  refine zj_iload_n (pc := 788) (x := i) hc dL_law_788 rfl ?_
  refine zj_iconst (pc := 789) hc dL_law_789 (zin _ rfl) ?_
  refine zj_iadd (pc := 790) hc dL_law_790 ⟨by omega, by omega⟩ ?_
  refine zj_sld (pc := 791) hc hX dL_law_791 ⟨by omega, by omega⟩ ?_
  refine zj_vti (pc := 792) (st := [.inl r]) hc ks_X10_behind iv_X10_behind lk_L_113 (zrv_9 Gz M1) (S_X10_behind l Gz (zXs xs (i + 1)) (zXs xs (i + 2)) (zXs xs (i + 3)) M1 _ h) rfl ⟨by decide, by decide⟩ (Nat.le_of_ble_eq_true rfl) ⟨by show cells + 0 + 0 ≤ 600000; omega, by show slots + 0 + 0 ≤ 7302250; omega⟩ dL_law_792 rfl (fun r2 M2 h2 => ?_)
  obtain ⟨he, hI2⟩ := h2
  refine zj_icmp_eq (pc := 795) (tgt := 938) hc dL_law_795 (by decide) (fun _ => ?_) (fun hne => absurd he hne)
  exact zj_widen (by omega) (by omega) (kk M2 hI2)
set_option maxRecDepth 100000 in
set_option maxHeartbeats 4000000 in
theorem L_24 {p : Program} {l : Launch} {e : Env} {s : State} {m : MethodId} {args : Array Value} {below : List Frame} {meth : Method} {c : Code} {cells slots : Nat} {Q : State → Prop} {Gz : zG} {M : zMem} {n : Nat} {xs : Nat → Int32} {i N : Int} (hc : zCx p s m args c cL_law 4 RL Gz) (hX : zScr Gz s n xs) (hst : zST Gz s) (hcs : cells + 3 ≤ 600000 ∧ slots + 1342 ≤ 7302250) (hi : 0 ≤ i ∧ i + 6 ≤ (n : Int)) (hI : Inv N M) (hN : N ≤ 1000)
    (kk : ∀ M2, Inv (N + 1) M2 → zJ p l e room_1 s m args below meth c Gz 4 (cells + 3) (slots + 1342) Q 938 [some (.inr 700), some (.inr 63), some (.inr 639), some (.inl i)] [] M2) : zJ p l e room_1 s m args below meth c Gz 4 cells slots Q 800 [some (.inr 700), some (.inr 63), some (.inr 639), some (.inl i)] [] M := by
  have hn := hX.2.2.2
  refine zj_aload_n (pc := 800) (x := 63) hc dL_law_800 rfl ?_
  refine zj_aload_n (pc := 801) (x := 700) hc dL_law_801 rfl ?_
  refine zj_iload_n (pc := 802) (x := i) hc dL_law_802 rfl ?_
  refine zj_iconst (pc := 803) hc dL_law_803 (zin _ rfl) ?_
  refine zj_iadd (pc := 804) hc dL_law_804 ⟨by omega, by omega⟩ ?_
  refine zj_sld (pc := 805) hc hX dL_law_805 ⟨by omega, by omega⟩ ?_
  refine zj_vti (pc := 806) (st := []) hc ks_X9_would iv_X9_would lk_L_114 (zrv_0 Gz M) (S_X9_would l Gz (zXs xs (i + 1)) M _ (I_would hI)) rfl ⟨by decide, by decide⟩ (Nat.le_of_ble_eq_true rfl) ⟨by show cells + 0 ≤ 600000; omega, by show slots + 0 ≤ 7302250; omega⟩ dL_law_806 rfl (fun r M1 h => ?_)
  refine zj_aload_n (pc := 809) (x := 639) hc dL_law_809 rfl ?_
  refine zj_aload_n (pc := 810) (x := 700) hc dL_law_810 rfl ?_
  refine zj_iload_n (pc := 811) (x := i) hc dL_law_811 rfl ?_
  refine zj_iconst (pc := 812) hc dL_law_812 (zin _ rfl) ?_
  refine zj_iadd (pc := 813) hc dL_law_813 ⟨by omega, by omega⟩ ?_
  refine zj_sld (pc := 814) hc hX dL_law_814 ⟨by omega, by omega⟩ ?_
  refine zj_vti (pc := 815) (st := [.inl r]) hc ks_X10_would iv_X10_would lk_L_117 (zrv_9 Gz M1) (S_X10_would l Gz (zXs xs (i + 1)) M1 _ h) rfl ⟨by decide, by decide⟩ (Nat.le_of_ble_eq_true rfl) ⟨by show cells + 0 + 0 ≤ 600000; omega, by show slots + 0 + 0 ≤ 7302250; omega⟩ dL_law_815 rfl (fun r2 M2 h2 => ?_)
  obtain ⟨he, hI2⟩ := h2
  refine zj_icmp_eq (pc := 818) (tgt := 938) hc dL_law_818 (by decide) (fun _ => ?_) (fun hne => absurd he hne)
  exact zj_widen (by omega) (by omega) (kk M2 hI2)
set_option maxRecDepth 100000 in
set_option maxHeartbeats 4000000 in
theorem L_25 {p : Program} {l : Launch} {e : Env} {s : State} {m : MethodId} {args : Array Value} {below : List Frame} {meth : Method} {c : Code} {cells slots : Nat} {Q : State → Prop} {Gz : zG} {M : zMem} {n : Nat} {xs : Nat → Int32} {i N : Int} (hc : zCx p s m args c cL_law 4 RL Gz) (hX : zScr Gz s n xs) (hst : zST Gz s) (hcs : cells + 3 ≤ 600000 ∧ slots + 1342 ≤ 7302250) (hi : 0 ≤ i ∧ i + 6 ≤ (n : Int)) (hI : Inv N M) (hN : N ≤ 1000)
    (kk : ∀ M2, Inv (N + 1) M2 → zJ p l e room_1 s m args below meth c Gz 4 (cells + 3) (slots + 1342) Q 938 [some (.inr 700), some (.inr 63), some (.inr 639), some (.inl i)] [] M2) : zJ p l e room_1 s m args below meth c Gz 4 cells slots Q 823 [some (.inr 700), some (.inr 63), some (.inr 639), some (.inl i)] [] M := by
  have hn := hX.2.2.2
  refine zj_aload_n (pc := 823) (x := 63) hc dL_law_823 rfl ?_
  refine zj_aload_n (pc := 824) (x := 700) hc dL_law_824 rfl ?_
  refine zj_iload_n (pc := 825) (x := i) hc dL_law_825 rfl ?_
  refine zj_iconst (pc := 826) hc dL_law_826 (zin _ rfl) ?_
  refine zj_iadd (pc := 827) hc dL_law_827 ⟨by omega, by omega⟩ ?_
  refine zj_sld (pc := 828) hc hX dL_law_828 ⟨by omega, by omega⟩ ?_
  refine zj_aload_n (pc := 829) (x := 700) hc dL_law_829 rfl ?_
  refine zj_iload_n (pc := 830) (x := i) hc dL_law_830 rfl ?_
  refine zj_iconst (pc := 831) hc dL_law_831 (zin _ rfl) ?_
  refine zj_iadd (pc := 832) hc dL_law_832 ⟨by omega, by omega⟩ ?_
  refine zj_sld (pc := 833) hc hX dL_law_833 ⟨by omega, by omega⟩ ?_
  refine zj_vti (pc := 834) (st := []) hc ks_X9_block iv_X9_block lk_L_118 (zrv_0 Gz M) (S_X9_block l Gz (zXs xs (i + 1)) (zXs xs (i + 2)) M _ (I_block hI)) rfl ⟨by decide, by decide⟩ (Nat.le_of_ble_eq_true rfl) ⟨by show cells + 0 ≤ 600000; omega, by show slots + 0 ≤ 7302250; omega⟩ dL_law_834 rfl (fun r M1 h => ?_)
  obtain ⟨rfl, h⟩ := h
  refine zj_aload_n (pc := 837) (x := 639) hc dL_law_837 rfl ?_
  refine zj_aload_n (pc := 838) (x := 700) hc dL_law_838 rfl ?_
  refine zj_iload_n (pc := 839) (x := i) hc dL_law_839 rfl ?_
  refine zj_iconst (pc := 840) hc dL_law_840 (zin _ rfl) ?_
  refine zj_iadd (pc := 841) hc dL_law_841 ⟨by omega, by omega⟩ ?_
  refine zj_sld (pc := 842) hc hX dL_law_842 ⟨by omega, by omega⟩ ?_
  refine zj_aload_n (pc := 843) (x := 700) hc dL_law_843 rfl ?_
  refine zj_iload_n (pc := 844) (x := i) hc dL_law_844 rfl ?_
  refine zj_iconst (pc := 845) hc dL_law_845 (zin _ rfl) ?_
  refine zj_iadd (pc := 846) hc dL_law_846 ⟨by omega, by omega⟩ ?_
  refine zj_sld (pc := 847) hc hX dL_law_847 ⟨by omega, by omega⟩ ?_
  refine zj_vti (pc := 848) (st := [.inl r]) hc ks_X10_block iv_X10_block lk_L_121 (zrv_9 Gz M) (S_X10_block l Gz (zXs xs (i + 1)) (zXs xs (i + 2)) M _ h) rfl ⟨by decide, by decide⟩ (Nat.le_of_ble_eq_true rfl) ⟨by show cells + 0 + 0 ≤ 600000; omega, by show slots + 0 + 0 ≤ 7302250; omega⟩ dL_law_848 rfl (fun r2 M2 h2 => ?_)
  obtain ⟨he, hI2⟩ := h2
  refine zj_icmp_eq (pc := 851) (tgt := 938) hc dL_law_851 (by decide) (fun _ => ?_) (fun hne => absurd he hne)
  exact zj_widen (by omega) (by omega) (kk M2 hI2)
set_option maxRecDepth 100000 in
set_option maxHeartbeats 4000000 in
theorem L_26 {p : Program} {l : Launch} {e : Env} {s : State} {m : MethodId} {args : Array Value} {below : List Frame} {meth : Method} {c : Code} {cells slots : Nat} {Q : State → Prop} {Gz : zG} {M : zMem} {n : Nat} {xs : Nat → Int32} {i N : Int} (hc : zCx p s m args c cL_law 4 RL Gz) (hX : zScr Gz s n xs) (hst : zST Gz s) (hcs : cells + 3 ≤ 600000 ∧ slots + 1342 ≤ 7302250) (hi : 0 ≤ i ∧ i + 6 ≤ (n : Int)) (hI : Inv N M) (hN : N ≤ 1000)
    (kk : ∀ M2, Inv (N + 1) M2 → zJ p l e room_1 s m args below meth c Gz 4 (cells + 3) (slots + 1342) Q 938 [some (.inr 700), some (.inr 63), some (.inr 639), some (.inl i)] [] M2) : zJ p l e room_1 s m args below meth c Gz 4 cells slots Q 856 [some (.inr 700), some (.inr 63), some (.inr 639), some (.inl i)] [] M := by
  have hn := hX.2.2.2
  refine zj_aload_n (pc := 856) (x := 63) hc dL_law_856 rfl ?_
  refine zj_aload_n (pc := 857) (x := 700) hc dL_law_857 rfl ?_
  refine zj_iload_n (pc := 858) (x := i) hc dL_law_858 rfl ?_
  refine zj_iconst (pc := 859) hc dL_law_859 (zin _ rfl) ?_
  refine zj_iadd (pc := 860) hc dL_law_860 ⟨by omega, by omega⟩ ?_
  refine zj_sld (pc := 861) hc hX dL_law_861 ⟨by omega, by omega⟩ ?_
  refine zj_vti (pc := 862) (st := []) hc ks_X9_directory iv_X9_directory lk_L_122 (zrv_0 Gz M) (S_X9_directory l Gz (zXs xs (i + 1)) M _ (I_directory hI)) rfl ⟨by decide, by decide⟩ (Nat.le_of_ble_eq_true rfl) ⟨by show cells + 0 ≤ 600000; omega, by show slots + 0 ≤ 7302250; omega⟩ dL_law_862 rfl (fun r M1 h => ?_)
  obtain ⟨rfl, h⟩ := h
  refine zj_aload_n (pc := 865) (x := 639) hc dL_law_865 rfl ?_
  refine zj_aload_n (pc := 866) (x := 700) hc dL_law_866 rfl ?_
  refine zj_iload_n (pc := 867) (x := i) hc dL_law_867 rfl ?_
  refine zj_iconst (pc := 868) hc dL_law_868 (zin _ rfl) ?_
  refine zj_iadd (pc := 869) hc dL_law_869 ⟨by omega, by omega⟩ ?_
  refine zj_sld (pc := 870) hc hX dL_law_870 ⟨by omega, by omega⟩ ?_
  refine zj_vti (pc := 871) (st := [.inl r]) hc ks_X10_directory iv_X10_directory lk_L_125 (zrv_9 Gz M) (S_X10_directory l Gz (zXs xs (i + 1)) M _ h) rfl ⟨by decide, by decide⟩ (Nat.le_of_ble_eq_true rfl) ⟨by show cells + 0 + 0 ≤ 600000; omega, by show slots + 0 + 0 ≤ 7302250; omega⟩ dL_law_871 rfl (fun r2 M2 h2 => ?_)
  obtain ⟨he, hI2⟩ := h2
  refine zj_icmp_eq (pc := 874) (tgt := 938) hc dL_law_874 (by decide) (fun _ => ?_) (fun hne => absurd he hne)
  exact zj_widen (by omega) (by omega) (kk M2 hI2)
set_option maxRecDepth 100000 in
set_option maxHeartbeats 4000000 in
theorem L_27 {p : Program} {l : Launch} {e : Env} {s : State} {m : MethodId} {args : Array Value} {below : List Frame} {meth : Method} {c : Code} {cells slots : Nat} {Q : State → Prop} {Gz : zG} {M : zMem} {n : Nat} {xs : Nat → Int32} {i N : Int} (hc : zCx p s m args c cL_law 4 RL Gz) (hX : zScr Gz s n xs) (hst : zST Gz s) (hcs : cells + 3 ≤ 600000 ∧ slots + 1342 ≤ 7302250) (hi : 0 ≤ i ∧ i + 6 ≤ (n : Int)) (hI : Inv N M) (hN : N ≤ 1000)
    (kk : ∀ M2, Inv (N + 1) M2 → zJ p l e room_1 s m args below meth c Gz 4 (cells + 3) (slots + 1342) Q 938 [some (.inr 700), some (.inr 63), some (.inr 639), some (.inl i)] [] M2) : zJ p l e room_1 s m args below meth c Gz 4 cells slots Q 879 [some (.inr 700), some (.inr 63), some (.inr 639), some (.inl i)] [] M := by
  have hn := hX.2.2.2
  refine zj_aload_n (pc := 879) (x := 63) hc dL_law_879 rfl ?_
  refine zj_aload_n (pc := 880) (x := 700) hc dL_law_880 rfl ?_
  refine zj_iload_n (pc := 881) (x := i) hc dL_law_881 rfl ?_
  refine zj_iconst (pc := 882) hc dL_law_882 (zin _ rfl) ?_
  refine zj_iadd (pc := 883) hc dL_law_883 ⟨by omega, by omega⟩ ?_
  refine zj_sld (pc := 884) hc hX dL_law_884 ⟨by omega, by omega⟩ ?_
  refine zj_vti (pc := 885) (st := []) hc ks_X9_journal iv_X9_journal lk_L_126 (zrv_0 Gz M) (S_X9_journal l Gz (zXs xs (i + 1)) M _ (I_journal hI)) rfl ⟨by decide, by decide⟩ (Nat.le_of_ble_eq_true rfl) ⟨by show cells + 0 ≤ 600000; omega, by show slots + 0 ≤ 7302250; omega⟩ dL_law_885 rfl (fun r M1 h => ?_)
  obtain ⟨rfl, h⟩ := h
  refine zj_aload_n (pc := 888) (x := 639) hc dL_law_888 rfl ?_
  refine zj_aload_n (pc := 889) (x := 700) hc dL_law_889 rfl ?_
  refine zj_iload_n (pc := 890) (x := i) hc dL_law_890 rfl ?_
  refine zj_iconst (pc := 891) hc dL_law_891 (zin _ rfl) ?_
  refine zj_iadd (pc := 892) hc dL_law_892 ⟨by omega, by omega⟩ ?_
  refine zj_sld (pc := 893) hc hX dL_law_893 ⟨by omega, by omega⟩ ?_
  refine zj_vti (pc := 894) (st := [.inl r]) hc ks_X10_journal iv_X10_journal lk_L_129 (zrv_9 Gz M) (S_X10_journal l Gz (zXs xs (i + 1)) M _ h) rfl ⟨by decide, by decide⟩ (Nat.le_of_ble_eq_true rfl) ⟨by show cells + 0 + 0 ≤ 600000; omega, by show slots + 0 + 0 ≤ 7302250; omega⟩ dL_law_894 rfl (fun r2 M2 h2 => ?_)
  obtain ⟨he, hI2⟩ := h2
  refine zj_icmp_eq (pc := 897) (tgt := 938) hc dL_law_897 (by decide) (fun _ => ?_) (fun hne => absurd he hne)
  exact zj_widen (by omega) (by omega) (kk M2 hI2)
set_option maxRecDepth 100000 in
set_option maxHeartbeats 4000000 in
theorem L_28 {p : Program} {l : Launch} {e : Env} {s : State} {m : MethodId} {args : Array Value} {below : List Frame} {meth : Method} {c : Code} {cells slots : Nat} {Q : State → Prop} {Gz : zG} {M : zMem} {n : Nat} {xs : Nat → Int32} {i N : Int} (hc : zCx p s m args c cL_law 4 RL Gz) (hX : zScr Gz s n xs) (hst : zST Gz s) (hcs : cells + 3 ≤ 600000 ∧ slots + 1342 ≤ 7302250) (hi : 0 ≤ i ∧ i + 6 ≤ (n : Int)) (hI : Inv N M) (hN : N ≤ 1000)
    (kk : ∀ M2, Inv (N + 1) M2 → zJ p l e room_1 s m args below meth c Gz 4 (cells + 3) (slots + 1342) Q 938 [some (.inr 700), some (.inr 63), some (.inr 639), some (.inl i)] [] M2) : zJ p l e room_1 s m args below meth c Gz 4 cells slots Q 902 [some (.inr 700), some (.inr 63), some (.inr 639), some (.inl i)] [] M := by
  have hn := hX.2.2.2
  refine zj_aload_n (pc := 902) (x := 63) hc dL_law_902 rfl ?_
  refine zj_aload_n (pc := 903) (x := 700) hc dL_law_903 rfl ?_
  refine zj_iload_n (pc := 904) (x := i) hc dL_law_904 rfl ?_
  refine zj_iconst (pc := 905) hc dL_law_905 (zin _ rfl) ?_
  refine zj_iadd (pc := 906) hc dL_law_906 ⟨by omega, by omega⟩ ?_
  refine zj_sld (pc := 907) hc hX dL_law_907 ⟨by omega, by omega⟩ ?_
  refine zj_vti (pc := 908) (st := []) hc ks_X9_count iv_X9_count lk_L_130 (zrv_0 Gz M) (S_X9_count l Gz (zXs xs (i + 1)) M _ (I_count hI)) rfl ⟨by decide, by decide⟩ (Nat.le_of_ble_eq_true rfl) ⟨by show cells + 0 ≤ 600000; omega, by show slots + 0 ≤ 7302250; omega⟩ dL_law_908 rfl (fun r M1 h => ?_)
  refine zj_aload_n (pc := 911) (x := 639) hc dL_law_911 rfl ?_
  refine zj_aload_n (pc := 912) (x := 700) hc dL_law_912 rfl ?_
  refine zj_iload_n (pc := 913) (x := i) hc dL_law_913 rfl ?_
  refine zj_iconst (pc := 914) hc dL_law_914 (zin _ rfl) ?_
  refine zj_iadd (pc := 915) hc dL_law_915 ⟨by omega, by omega⟩ ?_
  refine zj_sld (pc := 916) hc hX dL_law_916 ⟨by omega, by omega⟩ ?_
  refine zj_vti (pc := 917) (st := [.inl r]) hc ks_X10_count iv_X10_count lk_L_133 (zrv_9 Gz M1) (S_X10_count l Gz (zXs xs (i + 1)) M1 _ h) rfl ⟨by decide, by decide⟩ (Nat.le_of_ble_eq_true rfl) ⟨by show cells + 0 + 0 ≤ 600000; omega, by show slots + 0 + 0 ≤ 7302250; omega⟩ dL_law_917 rfl (fun r2 M2 h2 => ?_)
  obtain ⟨he, hI2⟩ := h2
  refine zj_icmp_eq (pc := 920) (tgt := 938) hc dL_law_920 (by decide) (fun _ => ?_) (fun hne => absurd he hne)
  exact zj_widen (by omega) (by omega) (kk M2 hI2)
set_option maxRecDepth 100000 in
set_option maxHeartbeats 4000000 in
theorem L_29 {p : Program} {l : Launch} {e : Env} {s : State} {m : MethodId} {args : Array Value} {below : List Frame} {meth : Method} {c : Code} {cells slots : Nat} {Q : State → Prop} {Gz : zG} {M : zMem} {n : Nat} {xs : Nat → Int32} {i N : Int} (hc : zCx p s m args c cL_law 4 RL Gz) (hX : zScr Gz s n xs) (hst : zST Gz s) (hcs : cells + 3 ≤ 600000 ∧ slots + 1342 ≤ 7302250) (hi : 0 ≤ i ∧ i + 6 ≤ (n : Int)) (hI : Inv N M) (hN : N ≤ 1000)
    (kk : ∀ M2, Inv (N + 1) M2 → zJ p l e room_1 s m args below meth c Gz 4 (cells + 3) (slots + 1342) Q 938 [some (.inr 700), some (.inr 63), some (.inr 639), some (.inl i)] [] M2) : zJ p l e room_1 s m args below meth c Gz 4 cells slots Q 925 [some (.inr 700), some (.inr 63), some (.inr 639), some (.inl i)] [] M := by
  have hn := hX.2.2.2
  refine zj_aload_n (pc := 925) (x := 63) hc dL_law_925 rfl ?_
  refine zj_vti (pc := 926) (st := []) hc ks_X9_status iv_X9_status lk_L_134 (zrv_0 Gz M) (S_X9_status l Gz  M _ (I_status hI)) rfl ⟨by decide, by decide⟩ (Nat.le_of_ble_eq_true rfl) ⟨by show cells + 0 ≤ 600000; omega, by show slots + 0 ≤ 7302250; omega⟩ dL_law_926 rfl (fun r M1 h => ?_)
  obtain ⟨rfl, h⟩ := h
  refine zj_aload_n (pc := 929) (x := 639) hc dL_law_929 rfl ?_
  refine zj_vti (pc := 930) (st := [.inl r]) hc ks_X10_status iv_X10_status lk_L_137 (zrv_9 Gz M) (S_X10_status l Gz  M _ h) rfl ⟨by decide, by decide⟩ (Nat.le_of_ble_eq_true rfl) ⟨by show cells + 0 + 0 ≤ 600000; omega, by show slots + 0 + 0 ≤ 7302250; omega⟩ dL_law_930 rfl (fun r2 M2 h2 => ?_)
  obtain ⟨he, hI2⟩ := h2
  refine zj_icmp_eq (pc := 933) (tgt := 938) hc dL_law_933 (by decide) (fun _ => ?_) (fun hne => absurd he hne)
  exact zj_widen (by omega) (by omega) (kk M2 hI2)
