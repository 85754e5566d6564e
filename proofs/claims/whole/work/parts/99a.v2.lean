/-! ===== the law's cases ===== -/
section LCASES
variable {p : Program} {l : Launch} {e : Env} {s : State} {m : MethodId} {args : Array Value} {below : List Frame} {meth : Method} {c : Code} {D : va_G} {cA : Nat → ClassId} {o : Nat} {x0 : Nat → Nat} {Z : State → Prop} {kc ks j L : Nat} {xs : Nat → Int32} {V : aV}
set_option maxHeartbeats 4000000 in
theorem lc_type (C : a_CG p s m args meth c mLaw) (K : a_K o x0 cA D s) (hN : aNcs s) (ho : o ≤ s.heap.size) (hls : l.stackTraces = false) (hX : va_X (x0 2) L xs s s.heap) (hb : x0 2 < o) (hL : L ≤ 2560) (hI : LInv V) (hj : 5 * j + 5 ≤ L) (kk : ∀ V', LInv V' → RG p l e room_1 s m args below meth c D cA o x0 mLaw Z kc ks 1445 [some (.retAddr 2), some (.ref 0), some (.ref 504), some (.ref 539), some (.int (nI (5 * j))), none, none] [] Sh V') : RG p l e room_1 s m args below meth c D cA o x0 mLaw Z (kc + 3) (ks + 18) 132 [some (.retAddr 2), some (.ref 0), some (.ref 504), some (.ref 539), some (.int (nI (5 * j))), none, none] [] Sh V := by
  refine G_less (kc' := kc + 1) (ks' := ks + 6) (by omega) (by omega) ?_
  refine G_aload_1 C K dL_law_132 ?_
  refine G_tload_0 C dL_law_133 ?_
  refine G_iload_4 C K dL_law_134 ?_
  refine G_iconst C K (v := 1) dL_law_136 (by decide) ?_
  refine G_iadd C K dL_law_137 ?_
  refine G_sld C hX hb ho (n := 5 * j + 1) (nI_1 _) (by omega) hL dL_law_138 ?_
  refine G_i2l C K dL_law_139 ?_
  refine G_bipush C K (v := 32) dL_law_140 (by decide) ?_
  refine G_lshl C K dL_law_142 ?_
  refine G_tload_0 C dL_law_143 ?_
  refine G_iload_4 C K dL_law_144 ?_
  refine G_iconst C K (v := 2) dL_law_146 (by decide) ?_
  refine G_iadd C K dL_law_147 ?_
  refine G_sld C hX hb ho (n := 5 * j + 2) (nI_add (5 * j) 2) (by omega) hL dL_law_148 ?_
  refine G_i2l C K dL_law_149 ?_
  refine G_ldc2 C K dL_law_150 cwL_82 ?_
  refine G_land C K dL_law_153 ?_
  refine G_lor C K dL_law_154 ?_
  refine G_aload_3 C K dL_law_155 ?_
  refine G_callSX (T' := mL_type) (hh := hL_type) (As := [_, _, _]) C K hN ho hls ddL_type wi_L chL_type stL_type mlL_84 (op_type hI _) rfl ⟨Nat.le_of_ble_eq_true rfl, Nat.le_of_ble_eq_true rfl⟩ (Nat.le_of_ble_eq_true rfl) dL_law_156 (fun v S' V1 h9 => ?_)
  obtain ⟨k, rfl, hk3, rfl, hm⟩ := h9
  refine G_istore_5 C K rfl (by decide) dL_law_159 ?_
  refine G_aload_2 C K dL_law_161 ?_
  refine G_tload_0 C dL_law_162 ?_
  refine G_iload_4 C K dL_law_163 ?_
  refine G_iconst C K (v := 1) dL_law_165 (by decide) ?_
  refine G_iadd C K dL_law_166 ?_
  refine G_sld C hX hb ho (n := 5 * j + 1) (nI_1 _) (by omega) hL dL_law_167 ?_
  refine G_i2l C K dL_law_168 ?_
  refine G_bipush C K (v := 32) dL_law_169 (by decide) ?_
  refine G_lshl C K dL_law_171 ?_
  refine G_tload_0 C dL_law_172 ?_
  refine G_iload_4 C K dL_law_173 ?_
  refine G_iconst C K (v := 2) dL_law_175 (by decide) ?_
  refine G_iadd C K dL_law_176 ?_
  refine G_sld C hX hb ho (n := 5 * j + 2) (nI_add (5 * j) 2) (by omega) hL dL_law_177 ?_
  refine G_i2l C K dL_law_178 ?_
  refine G_ldc2 C K dL_law_179 cwL_82 ?_
  refine G_land C K dL_law_182 ?_
  refine G_lor C K dL_law_183 ?_
  refine G_callV (T' := mX12_type) (As := [_]) (ci := 12) C K ho hls okX12_type mlL_89 rfl (by decide) sh_504 hm rfl ⟨Nat.le_of_ble_eq_true rfl, Nat.le_of_ble_eq_true rfl⟩ (Nat.le_of_ble_eq_true rfl) dL_law_184 (fun v S' V2 h8 => ?_) (fun E S' V' h => (show False from h).elim)
  obtain ⟨y, rfl, rfl, m0, m1, m2, hI2⟩ := h8
  refine G_istore_6 C K rfl (by decide) dL_law_187 ?_
  refine G_aload_2 C K dL_law_189 ?_
  refine G_callV_e (T' := mX12_thrown) (As := []) (ci := 12) C K ho hls okX12_thrown mlL_90 rfl (by decide) sh_504 (ct_mthrown m0) rfl ⟨Nat.le_of_ble_eq_true rfl, Nat.le_of_ble_eq_true rfl⟩ (Nat.le_of_ble_eq_true rfl) dL_law_190 ?_
  refine G_iload_5 C K dL_law_193 ?_
  refine G_icmp_eq C K 200 dL_law_195 (by decide) (fun c195 => ?_) (fun c195 => absurd rfl c195)
  refine G_iload_5 C K dL_law_200 ?_
  refine G_if_ne C K 217 dL_law_202 (by decide) (fun c202 => ?_) (fun c202 => ?_)
  · refine G_goto C K 1445 dL_law_217 (by decide) ?_
    refine G_drop_6 C K ?_
    refine G_drop_5 C K ?_
    exact kk _ hI2
  · have hk0 : k = 0 := by
      rcases Nat.eq_zero_or_pos k with z | z
      · exact z
      · exact absurd c202 (nI_ne0 z (by omega))
    refine G_aload_3 C K dL_law_205 ?_
    refine G_iconst C K (v := 0) dL_law_206 (by decide) ?_
    refine G_lald C K dL_law_207 sh_539 (show vp_in (nI 0) 1 from vp_in_nI (by decide) (by decide)) rfl ((congrFun m2 0).trans (m1 hk0)) ?_
    refine G_iload_6 C K dL_law_208 ?_
    refine G_i2l C K dL_law_210 ?_
    refine G_lcmp C K dL_law_211 ?_
    refine G_if_eq C K 217 dL_law_212 (by decide) (fun c212 => ?_) (fun c212 => absurd (lg_same _) c212)
    refine G_goto C K 1445 dL_law_217 (by decide) ?_
    refine G_drop_6 C K ?_
    refine G_drop_5 C K ?_
    exact kk _ hI2
set_option maxHeartbeats 4000000 in
theorem lc_template (C : a_CG p s m args meth c mLaw) (K : a_K o x0 cA D s) (hN : aNcs s) (ho : o ≤ s.heap.size) (hls : l.stackTraces = false) (hX : va_X (x0 2) L xs s s.heap) (hb : x0 2 < o) (hL : L ≤ 2560) (hI : LInv V) (hj : 5 * j + 5 ≤ L) (kk : ∀ V', LInv V' → RG p l e room_1 s m args below meth c D cA o x0 mLaw Z kc ks 1445 [some (.retAddr 2), some (.ref 0), some (.ref 504), some (.ref 539), some (.int (nI (5 * j))), none, none] [] Sh V') : RG p l e room_1 s m args below meth c D cA o x0 mLaw Z (kc + 3) (ks + 18) 220 [some (.retAddr 2), some (.ref 0), some (.ref 504), some (.ref 539), some (.int (nI (5 * j))), none, none] [] Sh V := by
  refine G_less (kc' := kc + 1) (ks' := ks + 6) (by omega) (by omega) ?_
  refine G_aload_1 C K dL_law_220 ?_
  refine G_tload_0 C dL_law_221 ?_
  refine G_iload_4 C K dL_law_222 ?_
  refine G_iconst C K (v := 1) dL_law_224 (by decide) ?_
  refine G_iadd C K dL_law_225 ?_
  refine G_sld C hX hb ho (n := 5 * j + 1) (nI_1 _) (by omega) hL dL_law_226 ?_
  refine G_aload_3 C K dL_law_227 ?_
  refine G_callSX (T' := mL_template) (hh := hL_template) (As := [_, _, _]) C K hN ho hls ddL_template wi_L chL_template stL_template mlL_94 (op_template hI (xs (5 * j + 1))) rfl ⟨Nat.le_of_ble_eq_true rfl, Nat.le_of_ble_eq_true rfl⟩ (Nat.le_of_ble_eq_true rfl) dL_law_228 (fun v S' V1 h9 => ?_)
  obtain ⟨k, rfl, hk3, rfl, hm⟩ := h9
  refine G_istore_5 C K rfl (by decide) dL_law_231 ?_
  refine G_aload_2 C K dL_law_233 ?_
  refine G_tload_0 C dL_law_234 ?_
  refine G_iload_4 C K dL_law_235 ?_
  refine G_iconst C K (v := 1) dL_law_237 (by decide) ?_
  refine G_iadd C K dL_law_238 ?_
  refine G_sld C hX hb ho (n := 5 * j + 1) (nI_1 _) (by omega) hL dL_law_239 ?_
  refine G_callV (T' := mX12_template) (As := [_]) (ci := 12) C K ho hls okX12_template mlL_97 rfl (by decide) sh_504 hm rfl ⟨Nat.le_of_ble_eq_true rfl, Nat.le_of_ble_eq_true rfl⟩ (Nat.le_of_ble_eq_true rfl) dL_law_240 (fun v S' V2 h8 => ?_) (fun E S' V' h => (show False from h).elim)
  obtain ⟨y, rfl, rfl, m0, m1, m2, hI2⟩ := h8
  refine G_istore_6 C K rfl (by decide) dL_law_243 ?_
  refine G_aload_2 C K dL_law_245 ?_
  refine G_callV_e (T' := mX12_thrown) (As := []) (ci := 12) C K ho hls okX12_thrown mlL_90 rfl (by decide) sh_504 (ct_mthrown m0) rfl ⟨Nat.le_of_ble_eq_true rfl, Nat.le_of_ble_eq_true rfl⟩ (Nat.le_of_ble_eq_true rfl) dL_law_246 ?_
  refine G_iload_5 C K dL_law_249 ?_
  refine G_icmp_eq C K 256 dL_law_251 (by decide) (fun c251 => ?_) (fun c251 => absurd rfl c251)
  refine G_iload_5 C K dL_law_256 ?_
  refine G_if_ne C K 273 dL_law_258 (by decide) (fun c258 => ?_) (fun c258 => ?_)
  · refine G_goto C K 1445 dL_law_273 (by decide) ?_
    refine G_drop_6 C K ?_
    refine G_drop_5 C K ?_
    exact kk _ hI2
  · have hk0 : k = 0 := by
      rcases Nat.eq_zero_or_pos k with z | z
      · exact z
      · exact absurd c258 (nI_ne0 z (by omega))
    refine G_aload_3 C K dL_law_261 ?_
    refine G_iconst C K (v := 0) dL_law_262 (by decide) ?_
    refine G_lald C K dL_law_263 sh_539 (show vp_in (nI 0) 1 from vp_in_nI (by decide) (by decide)) rfl ((congrFun m2 0).trans (m1 hk0)) ?_
    refine G_iload_6 C K dL_law_264 ?_
    refine G_i2l C K dL_law_266 ?_
    refine G_lcmp C K dL_law_267 ?_
    refine G_if_eq C K 273 dL_law_268 (by decide) (fun c268 => ?_) (fun c268 => absurd (lg_same _) c268)
    refine G_goto C K 1445 dL_law_273 (by decide) ?_
    refine G_drop_6 C K ?_
    refine G_drop_5 C K ?_
    exact kk _ hI2
set_option maxHeartbeats 4000000 in
theorem lc_address (C : a_CG p s m args meth c mLaw) (K : a_K o x0 cA D s) (hN : aNcs s) (ho : o ≤ s.heap.size) (hls : l.stackTraces = false) (hX : va_X (x0 2) L xs s s.heap) (hb : x0 2 < o) (hL : L ≤ 2560) (hI : LInv V) (hj : 5 * j + 5 ≤ L) (kk : ∀ V', LInv V' → RG p l e room_1 s m args below meth c D cA o x0 mLaw Z kc ks 1445 [some (.retAddr 2), some (.ref 0), some (.ref 504), some (.ref 539), some (.int (nI (5 * j))), none, none] [] Sh V') : RG p l e room_1 s m args below meth c D cA o x0 mLaw Z (kc + 3) (ks + 18) 276 [some (.retAddr 2), some (.ref 0), some (.ref 504), some (.ref 539), some (.int (nI (5 * j))), none, none] [] Sh V := by
  refine G_less (kc' := kc + 1) (ks' := ks + 6) (by omega) (by omega) ?_
  refine G_aload_1 C K dL_law_276 ?_
  refine G_tload_0 C dL_law_277 ?_
  refine G_iload_4 C K dL_law_278 ?_
  refine G_iconst C K (v := 1) dL_law_280 (by decide) ?_
  refine G_iadd C K dL_law_281 ?_
  refine G_sld C hX hb ho (n := 5 * j + 1) (nI_1 _) (by omega) hL dL_law_282 ?_
  refine G_aload_3 C K dL_law_283 ?_
  refine G_callSX (T' := mL_address) (hh := hL_address) (As := [_, _, _]) C K hN ho hls ddL_address wi_L chL_address stL_address mlL_98 (op_address hI (xs (5 * j + 1))) rfl ⟨Nat.le_of_ble_eq_true rfl, Nat.le_of_ble_eq_true rfl⟩ (Nat.le_of_ble_eq_true rfl) dL_law_284 (fun v S' V1 h9 => ?_)
  obtain ⟨k, rfl, hk3, rfl, hm⟩ := h9
  refine G_istore_5 C K rfl (by decide) dL_law_287 ?_
  refine G_aload_2 C K dL_law_289 ?_
  refine G_tload_0 C dL_law_290 ?_
  refine G_iload_4 C K dL_law_291 ?_
  refine G_iconst C K (v := 1) dL_law_293 (by decide) ?_
  refine G_iadd C K dL_law_294 ?_
  refine G_sld C hX hb ho (n := 5 * j + 1) (nI_1 _) (by omega) hL dL_law_295 ?_
  refine G_callV (T' := mX12_address) (As := [_]) (ci := 12) C K ho hls okX12_address mlL_100 rfl (by decide) sh_504 hm rfl ⟨Nat.le_of_ble_eq_true rfl, Nat.le_of_ble_eq_true rfl⟩ (Nat.le_of_ble_eq_true rfl) dL_law_296 (fun v S' V2 h8 => ?_) (fun E S' V' h => (show False from h).elim)
  obtain ⟨y, rfl, rfl, m0, m1, m2, hI2⟩ := h8
  refine G_istore_6 C K rfl (by decide) dL_law_299 ?_
  refine G_aload_2 C K dL_law_301 ?_
  refine G_callV_e (T' := mX12_thrown) (As := []) (ci := 12) C K ho hls okX12_thrown mlL_90 rfl (by decide) sh_504 (ct_mthrown m0) rfl ⟨Nat.le_of_ble_eq_true rfl, Nat.le_of_ble_eq_true rfl⟩ (Nat.le_of_ble_eq_true rfl) dL_law_302 ?_
  refine G_iload_5 C K dL_law_305 ?_
  refine G_icmp_eq C K 312 dL_law_307 (by decide) (fun c307 => ?_) (fun c307 => absurd rfl c307)
  refine G_iload_5 C K dL_law_312 ?_
  refine G_if_ne C K 329 dL_law_314 (by decide) (fun c314 => ?_) (fun c314 => ?_)
  · refine G_goto C K 1445 dL_law_329 (by decide) ?_
    refine G_drop_6 C K ?_
    refine G_drop_5 C K ?_
    exact kk _ hI2
  · have hk0 : k = 0 := by
      rcases Nat.eq_zero_or_pos k with z | z
      · exact z
      · exact absurd c314 (nI_ne0 z (by omega))
    refine G_aload_3 C K dL_law_317 ?_
    refine G_iconst C K (v := 0) dL_law_318 (by decide) ?_
    refine G_lald C K dL_law_319 sh_539 (show vp_in (nI 0) 1 from vp_in_nI (by decide) (by decide)) rfl ((congrFun m2 0).trans (m1 hk0)) ?_
    refine G_iload_6 C K dL_law_320 ?_
    refine G_i2l C K dL_law_322 ?_
    refine G_lcmp C K dL_law_323 ?_
    refine G_if_eq C K 329 dL_law_324 (by decide) (fun c324 => ?_) (fun c324 => absurd (lg_same _) c324)
    refine G_goto C K 1445 dL_law_329 (by decide) ?_
    refine G_drop_6 C K ?_
    refine G_drop_5 C K ?_
    exact kk _ hI2
set_option maxHeartbeats 4000000 in
theorem lc_addresses (C : a_CG p s m args meth c mLaw) (K : a_K o x0 cA D s) (hN : aNcs s) (ho : o ≤ s.heap.size) (hls : l.stackTraces = false) (hX : va_X (x0 2) L xs s s.heap) (hb : x0 2 < o) (hL : L ≤ 2560) (hI : LInv V) (hj : 5 * j + 5 ≤ L) (kk : ∀ V', LInv V' → RG p l e room_1 s m args below meth c D cA o x0 mLaw Z kc ks 1445 [some (.retAddr 2), some (.ref 0), some (.ref 504), some (.ref 539), some (.int (nI (5 * j))), none, none] [] Sh V') : RG p l e room_1 s m args below meth c D cA o x0 mLaw Z (kc + 3) (ks + 18) 332 [some (.retAddr 2), some (.ref 0), some (.ref 504), some (.ref 539), some (.int (nI (5 * j))), none, none] [] Sh V := by
  have hI0 := hI
  obtain ⟨L0, T, to, ent, cnt, mt, po, b, st, pa, n, rt, rr, pd, kn, kl, hC, hM, hS⟩ := hI0
  obtain ⟨⟨a1, a2, a3, a4, a5, a6, a7⟩, ⟨b1, ⟨en, sp, b2⟩, b3, b4⟩, -⟩ := hC
  obtain ⟨-, ⟨mE, mM, mP⟩, ⟨mb, ms, mp⟩, -⟩ := hM
  refine G_less (kc' := kc) (ks' := ks) (by omega) (by omega) ?_
  refine G_aload_1 C K dL_law_332 ?_
  refine G_callV_e (T' := mX11_addresses) (As := []) (ci := 11) C K ho hls okX11_addresses mlL_101 rfl (by decide) sh_0 (ct_addresses a1 b2.2.2.2.1) rfl ⟨Nat.le_of_ble_eq_true rfl, Nat.le_of_ble_eq_true rfl⟩ (Nat.le_of_ble_eq_true rfl) dL_law_333 ?_
  refine G_aload_2 C K dL_law_336 ?_
  refine G_callV_e (T' := mX12_addresses) (As := []) (ci := 12) C K ho hls okX12_addresses mlL_104 rfl (by decide) sh_504 (ct_maddresses mE.1) rfl ⟨Nat.le_of_ble_eq_true rfl, Nat.le_of_ble_eq_true rfl⟩ (Nat.le_of_ble_eq_true rfl) dL_law_337 ?_
  refine G_icmp_eq C K 1445 dL_law_340 (by decide) (fun c340 => ?_) (fun c340 => absurd rfl c340)
  exact kk V hI
set_option maxHeartbeats 4000000 in
theorem lc_cleaned (C : a_CG p s m args meth c mLaw) (K : a_K o x0 cA D s) (hN : aNcs s) (ho : o ≤ s.heap.size) (hls : l.stackTraces = false) (hX : va_X (x0 2) L xs s s.heap) (hb : x0 2 < o) (hL : L ≤ 2560) (hI : LInv V) (hj : 5 * j + 5 ≤ L) (kk : ∀ V', LInv V' → RG p l e room_1 s m args below meth c D cA o x0 mLaw Z kc ks 1445 [some (.retAddr 2), some (.ref 0), some (.ref 504), some (.ref 539), some (.int (nI (5 * j))), none, none] [] Sh V') : RG p l e room_1 s m args below meth c D cA o x0 mLaw Z (kc + 3) (ks + 18) 345 [some (.retAddr 2), some (.ref 0), some (.ref 504), some (.ref 539), some (.int (nI (5 * j))), none, none] [] Sh V := by
  refine G_less (kc' := kc + 2) (ks' := ks + 12) (by omega) (by omega) ?_
  refine G_aload_1 C K dL_law_345 ?_
  refine G_tload_0 C dL_law_346 ?_
  refine G_iload_4 C K dL_law_347 ?_
  refine G_iconst C K (v := 1) dL_law_349 (by decide) ?_
  refine G_iadd C K dL_law_350 ?_
  refine G_sld C hX hb ho (n := 5 * j + 1) (nI_1 _) (by omega) hL dL_law_351 ?_
  refine G_tload_0 C dL_law_352 ?_
  refine G_iload_4 C K dL_law_353 ?_
  refine G_iconst C K (v := 2) dL_law_355 (by decide) ?_
  refine G_iadd C K dL_law_356 ?_
  refine G_sld C hX hb ho (n := 5 * j + 2) (nI_add (5 * j) 2) (by omega) hL dL_law_357 ?_
  refine G_if_eq C K 365 dL_law_358 (by decide) (fun c358 => ?_) (fun c358 => ?_)
  · refine G_iconst C K (v := 0) dL_law_365 (by decide) ?_
    refine G_tload_0 C dL_law_366 ?_
    refine G_iload_4 C K dL_law_367 ?_
    refine G_iconst C K (v := 3) dL_law_369 (by decide) ?_
    refine G_iadd C K dL_law_370 ?_
    refine G_sld C hX hb ho (n := 5 * j + 3) (nI_add (5 * j) 3) (by omega) hL dL_law_371 ?_
    refine G_aload_3 C K dL_law_372 ?_
    refine G_callSX (T' := mL_cleaned) (hh := hL_cleaned) (As := [_, _, _, _, _]) C K hN ho hls ddL_cleaned wi_L chL_cleaned stL_cleaned mlL_105 (op_cleaned hI (xs (5 * j + 1)) 0 (xs (5 * j + 3))) rfl ⟨Nat.le_of_ble_eq_true rfl, Nat.le_of_ble_eq_true rfl⟩ (Nat.le_of_ble_eq_true rfl) dL_law_373 (fun v S' V1 h9 => ?_)
    obtain ⟨k, rfl, hk3, rfl, hm⟩ := h9
    refine G_istore_5 C K rfl (by decide) dL_law_376 ?_
    refine G_aload_2 C K dL_law_378 ?_
    refine G_tload_0 C dL_law_379 ?_
    refine G_iload_4 C K dL_law_380 ?_
    refine G_iconst C K (v := 1) dL_law_382 (by decide) ?_
    refine G_iadd C K dL_law_383 ?_
    refine G_sld C hX hb ho (n := 5 * j + 1) (nI_1 _) (by omega) hL dL_law_384 ?_
    refine G_tload_0 C dL_law_385 ?_
    refine G_iload_4 C K dL_law_386 ?_
    refine G_iconst C K (v := 2) dL_law_388 (by decide) ?_
    refine G_iadd C K dL_law_389 ?_
    refine G_sld C hX hb ho (n := 5 * j + 2) (nI_add (5 * j) 2) (by omega) hL dL_law_390 ?_
    refine G_if_eq C K 398 dL_law_391 (by decide) (fun c391 => ?_) (fun c391 => absurd c358 c391)
    refine G_iconst C K (v := 0) dL_law_398 (by decide) ?_
    refine G_tload_0 C dL_law_399 ?_
    refine G_iload_4 C K dL_law_400 ?_
    refine G_iconst C K (v := 3) dL_law_402 (by decide) ?_
    refine G_iadd C K dL_law_403 ?_
    refine G_sld C hX hb ho (n := 5 * j + 3) (nI_add (5 * j) 3) (by omega) hL dL_law_404 ?_
    refine G_callV (T' := mX12_cleaned) (As := [_, _, _]) (ci := 12) C K ho hls okX12_cleaned mlL_108 rfl (by decide) sh_504 hm rfl ⟨Nat.le_of_ble_eq_true rfl, Nat.le_of_ble_eq_true rfl⟩ (Nat.le_of_ble_eq_true rfl) dL_law_405 (fun v S' V2 h8 => ?_) (fun E S' V' h => (show False from h).elim)
    obtain ⟨y, rfl, rfl, m0, m1, m2, hI2⟩ := h8
    refine G_istore_6 C K rfl (by decide) dL_law_408 ?_
    refine G_aload_2 C K dL_law_410 ?_
    refine G_callV_e (T' := mX12_thrown) (As := []) (ci := 12) C K ho hls okX12_thrown mlL_90 rfl (by decide) sh_504 (ct_mthrown m0) rfl ⟨Nat.le_of_ble_eq_true rfl, Nat.le_of_ble_eq_true rfl⟩ (Nat.le_of_ble_eq_true rfl) dL_law_411 ?_
    refine G_iload_5 C K dL_law_414 ?_
    refine G_icmp_eq C K 421 dL_law_416 (by decide) (fun c416 => ?_) (fun c416 => absurd rfl c416)
    refine G_iload_5 C K dL_law_421 ?_
    refine G_if_ne C K 438 dL_law_423 (by decide) (fun c423 => ?_) (fun c423 => ?_)
    · refine G_goto C K 1445 dL_law_438 (by decide) ?_
      refine G_drop_6 C K ?_
      refine G_drop_5 C K ?_
      exact kk _ hI2
    · have hk0 : k = 0 := by
        rcases Nat.eq_zero_or_pos k with z | z
        · exact z
        · exact absurd c423 (nI_ne0 z (by omega))
      refine G_aload_3 C K dL_law_426 ?_
      refine G_iconst C K (v := 0) dL_law_427 (by decide) ?_
      refine G_lald C K dL_law_428 sh_539 (show vp_in (nI 0) 1 from vp_in_nI (by decide) (by decide)) rfl ((congrFun m2 0).trans (m1 hk0)) ?_
      refine G_iload_6 C K dL_law_429 ?_
      refine G_i2l C K dL_law_431 ?_
      refine G_lcmp C K dL_law_432 ?_
      refine G_if_eq C K 438 dL_law_433 (by decide) (fun c433 => ?_) (fun c433 => absurd (lg_same _) c433)
      refine G_goto C K 1445 dL_law_438 (by decide) ?_
      refine G_drop_6 C K ?_
      refine G_drop_5 C K ?_
      exact kk _ hI2
  · refine G_iconst C K (v := 1) dL_law_361 (by decide) ?_
    refine G_goto C K 366 dL_law_362 (by decide) ?_
    refine G_tload_0 C dL_law_366 ?_
    refine G_iload_4 C K dL_law_367 ?_
    refine G_iconst C K (v := 3) dL_law_369 (by decide) ?_
    refine G_iadd C K dL_law_370 ?_
    refine G_sld C hX hb ho (n := 5 * j + 3) (nI_add (5 * j) 3) (by omega) hL dL_law_371 ?_
    refine G_aload_3 C K dL_law_372 ?_
    refine G_callSX (T' := mL_cleaned) (hh := hL_cleaned) (As := [_, _, _, _, _]) C K hN ho hls ddL_cleaned wi_L chL_cleaned stL_cleaned mlL_105 (op_cleaned hI (xs (5 * j + 1)) 1 (xs (5 * j + 3))) rfl ⟨Nat.le_of_ble_eq_true rfl, Nat.le_of_ble_eq_true rfl⟩ (Nat.le_of_ble_eq_true rfl) dL_law_373 (fun v S' V1 h9 => ?_)
    obtain ⟨k, rfl, hk3, rfl, hm⟩ := h9
    refine G_istore_5 C K rfl (by decide) dL_law_376 ?_
    refine G_aload_2 C K dL_law_378 ?_
    refine G_tload_0 C dL_law_379 ?_
    refine G_iload_4 C K dL_law_380 ?_
    refine G_iconst C K (v := 1) dL_law_382 (by decide) ?_
    refine G_iadd C K dL_law_383 ?_
    refine G_sld C hX hb ho (n := 5 * j + 1) (nI_1 _) (by omega) hL dL_law_384 ?_
    refine G_tload_0 C dL_law_385 ?_
    refine G_iload_4 C K dL_law_386 ?_
    refine G_iconst C K (v := 2) dL_law_388 (by decide) ?_
    refine G_iadd C K dL_law_389 ?_
    refine G_sld C hX hb ho (n := 5 * j + 2) (nI_add (5 * j) 2) (by omega) hL dL_law_390 ?_
    refine G_if_eq C K 398 dL_law_391 (by decide) (fun c391 => absurd c391 c358) (fun c391 => ?_)
    refine G_iconst C K (v := 1) dL_law_394 (by decide) ?_
    refine G_goto C K 399 dL_law_395 (by decide) ?_
    refine G_tload_0 C dL_law_399 ?_
    refine G_iload_4 C K dL_law_400 ?_
    refine G_iconst C K (v := 3) dL_law_402 (by decide) ?_
    refine G_iadd C K dL_law_403 ?_
    refine G_sld C hX hb ho (n := 5 * j + 3) (nI_add (5 * j) 3) (by omega) hL dL_law_404 ?_
    refine G_callV (T' := mX12_cleaned) (As := [_, _, _]) (ci := 12) C K ho hls okX12_cleaned mlL_108 rfl (by decide) sh_504 hm rfl ⟨Nat.le_of_ble_eq_true rfl, Nat.le_of_ble_eq_true rfl⟩ (Nat.le_of_ble_eq_true rfl) dL_law_405 (fun v S' V2 h8 => ?_) (fun E S' V' h => (show False from h).elim)
    obtain ⟨y, rfl, rfl, m0, m1, m2, hI2⟩ := h8
    refine G_istore_6 C K rfl (by decide) dL_law_408 ?_
    refine G_aload_2 C K dL_law_410 ?_
    refine G_callV_e (T' := mX12_thrown) (As := []) (ci := 12) C K ho hls okX12_thrown mlL_90 rfl (by decide) sh_504 (ct_mthrown m0) rfl ⟨Nat.le_of_ble_eq_true rfl, Nat.le_of_ble_eq_true rfl⟩ (Nat.le_of_ble_eq_true rfl) dL_law_411 ?_
    refine G_iload_5 C K dL_law_414 ?_
    refine G_icmp_eq C K 421 dL_law_416 (by decide) (fun c416 => ?_) (fun c416 => absurd rfl c416)
    refine G_iload_5 C K dL_law_421 ?_
    refine G_if_ne C K 438 dL_law_423 (by decide) (fun c423 => ?_) (fun c423 => ?_)
    · refine G_goto C K 1445 dL_law_438 (by decide) ?_
      refine G_drop_6 C K ?_
      refine G_drop_5 C K ?_
      exact kk _ hI2
    · have hk0 : k = 0 := by
        rcases Nat.eq_zero_or_pos k with z | z
        · exact z
        · exact absurd c423 (nI_ne0 z (by omega))
      refine G_aload_3 C K dL_law_426 ?_
      refine G_iconst C K (v := 0) dL_law_427 (by decide) ?_
      refine G_lald C K dL_law_428 sh_539 (show vp_in (nI 0) 1 from vp_in_nI (by decide) (by decide)) rfl ((congrFun m2 0).trans (m1 hk0)) ?_
      refine G_iload_6 C K dL_law_429 ?_
      refine G_i2l C K dL_law_431 ?_
      refine G_lcmp C K dL_law_432 ?_
      refine G_if_eq C K 438 dL_law_433 (by decide) (fun c433 => ?_) (fun c433 => absurd (lg_same _) c433)
      refine G_goto C K 1445 dL_law_438 (by decide) ?_
      refine G_drop_6 C K ?_
      refine G_drop_5 C K ?_
      exact kk _ hI2
set_option maxHeartbeats 4000000 in
theorem lc_apart (C : a_CG p s m args meth c mLaw) (K : a_K o x0 cA D s) (hN : aNcs s) (ho : o ≤ s.heap.size) (hls : l.stackTraces = false) (hX : va_X (x0 2) L xs s s.heap) (hb : x0 2 < o) (hL : L ≤ 2560) (hI : LInv V) (hj : 5 * j + 5 ≤ L) (kk : ∀ V', LInv V' → RG p l e room_1 s m args below meth c D cA o x0 mLaw Z kc ks 1445 [some (.retAddr 2), some (.ref 0), some (.ref 504), some (.ref 539), some (.int (nI (5 * j))), none, none] [] Sh V') : RG p l e room_1 s m args below meth c D cA o x0 mLaw Z (kc + 3) (ks + 18) 441 [some (.retAddr 2), some (.ref 0), some (.ref 504), some (.ref 539), some (.int (nI (5 * j))), none, none] [] Sh V := by
  refine G_less (kc' := kc + 2) (ks' := ks + 12) (by omega) (by omega) ?_
  refine G_aload_1 C K dL_law_441 ?_
  refine G_tload_0 C dL_law_442 ?_
  refine G_iload_4 C K dL_law_443 ?_
  refine G_iconst C K (v := 1) dL_law_445 (by decide) ?_
  refine G_iadd C K dL_law_446 ?_
  refine G_sld C hX hb ho (n := 5 * j + 1) (nI_1 _) (by omega) hL dL_law_447 ?_
  refine G_tload_0 C dL_law_448 ?_
  refine G_iload_4 C K dL_law_449 ?_
  refine G_iconst C K (v := 2) dL_law_451 (by decide) ?_
  refine G_iadd C K dL_law_452 ?_
  refine G_sld C hX hb ho (n := 5 * j + 2) (nI_add (5 * j) 2) (by omega) hL dL_law_453 ?_
  refine G_tload_0 C dL_law_454 ?_
  refine G_iload_4 C K dL_law_455 ?_
  refine G_iconst C K (v := 3) dL_law_457 (by decide) ?_
  refine G_iadd C K dL_law_458 ?_
  refine G_sld C hX hb ho (n := 5 * j + 3) (nI_add (5 * j) 3) (by omega) hL dL_law_459 ?_
  refine G_if_eq C K 467 dL_law_460 (by decide) (fun c460 => ?_) (fun c460 => ?_)
  · refine G_iconst C K (v := 0) dL_law_467 (by decide) ?_
    refine G_aload_3 C K dL_law_468 ?_
    refine G_callSX (T' := mL_apart) (hh := hL_apart) (As := [_, _, _, _, _]) C K hN ho hls ddL_apart wi_L chL_apart stL_apart mlL_109 (op_apart hI (xs (5 * j + 1)) (xs (5 * j + 2)) 0) rfl ⟨Nat.le_of_ble_eq_true rfl, Nat.le_of_ble_eq_true rfl⟩ (Nat.le_of_ble_eq_true rfl) dL_law_469 (fun v S' V1 h9 => ?_)
    obtain ⟨k, rfl, hk3, rfl, hm⟩ := h9
    refine G_istore_5 C K rfl (by decide) dL_law_472 ?_
    refine G_aload_2 C K dL_law_474 ?_
    refine G_tload_0 C dL_law_475 ?_
    refine G_iload_4 C K dL_law_476 ?_
    refine G_iconst C K (v := 1) dL_law_478 (by decide) ?_
    refine G_iadd C K dL_law_479 ?_
    refine G_sld C hX hb ho (n := 5 * j + 1) (nI_1 _) (by omega) hL dL_law_480 ?_
    refine G_tload_0 C dL_law_481 ?_
    refine G_iload_4 C K dL_law_482 ?_
    refine G_iconst C K (v := 2) dL_law_484 (by decide) ?_
    refine G_iadd C K dL_law_485 ?_
    refine G_sld C hX hb ho (n := 5 * j + 2) (nI_add (5 * j) 2) (by omega) hL dL_law_486 ?_
    refine G_tload_0 C dL_law_487 ?_
    refine G_iload_4 C K dL_law_488 ?_
    refine G_iconst C K (v := 3) dL_law_490 (by decide) ?_
    refine G_iadd C K dL_law_491 ?_
    refine G_sld C hX hb ho (n := 5 * j + 3) (nI_add (5 * j) 3) (by omega) hL dL_law_492 ?_
    refine G_if_eq C K 500 dL_law_493 (by decide) (fun c493 => ?_) (fun c493 => absurd c460 c493)
    refine G_iconst C K (v := 0) dL_law_500 (by decide) ?_
    refine G_callV (T' := mX12_apart) (As := [_, _, _]) (ci := 12) C K ho hls okX12_apart mlL_112 rfl (by decide) sh_504 hm rfl ⟨Nat.le_of_ble_eq_true rfl, Nat.le_of_ble_eq_true rfl⟩ (Nat.le_of_ble_eq_true rfl) dL_law_501 (fun v S' V2 h8 => ?_) (fun E S' V' h => (show False from h).elim)
    obtain ⟨y, rfl, rfl, m0, m1, m2, hI2⟩ := h8
    refine G_istore_6 C K rfl (by decide) dL_law_504 ?_
    refine G_aload_2 C K dL_law_506 ?_
    refine G_callV_e (T' := mX12_thrown) (As := []) (ci := 12) C K ho hls okX12_thrown mlL_90 rfl (by decide) sh_504 (ct_mthrown m0) rfl ⟨Nat.le_of_ble_eq_true rfl, Nat.le_of_ble_eq_true rfl⟩ (Nat.le_of_ble_eq_true rfl) dL_law_507 ?_
    refine G_iload_5 C K dL_law_510 ?_
    refine G_icmp_eq C K 517 dL_law_512 (by decide) (fun c512 => ?_) (fun c512 => absurd rfl c512)
    refine G_iload_5 C K dL_law_517 ?_
    refine G_if_ne C K 534 dL_law_519 (by decide) (fun c519 => ?_) (fun c519 => ?_)
    · refine G_goto C K 1445 dL_law_534 (by decide) ?_
      refine G_drop_6 C K ?_
      refine G_drop_5 C K ?_
      exact kk _ hI2
    · have hk0 : k = 0 := by
        rcases Nat.eq_zero_or_pos k with z | z
        · exact z
        · exact absurd c519 (nI_ne0 z (by omega))
      refine G_aload_3 C K dL_law_522 ?_
      refine G_iconst C K (v := 0) dL_law_523 (by decide) ?_
      refine G_lald C K dL_law_524 sh_539 (show vp_in (nI 0) 1 from vp_in_nI (by decide) (by decide)) rfl ((congrFun m2 0).trans (m1 hk0)) ?_
      refine G_iload_6 C K dL_law_525 ?_
      refine G_i2l C K dL_law_527 ?_
      refine G_lcmp C K dL_law_528 ?_
      refine G_if_eq C K 534 dL_law_529 (by decide) (fun c529 => ?_) (fun c529 => absurd (lg_same _) c529)
      refine G_goto C K 1445 dL_law_534 (by decide) ?_
      refine G_drop_6 C K ?_
      refine G_drop_5 C K ?_
      exact kk _ hI2
  · refine G_iconst C K (v := 1) dL_law_463 (by decide) ?_
    refine G_goto C K 468 dL_law_464 (by decide) ?_
    refine G_aload_3 C K dL_law_468 ?_
    refine G_callSX (T' := mL_apart) (hh := hL_apart) (As := [_, _, _, _, _]) C K hN ho hls ddL_apart wi_L chL_apart stL_apart mlL_109 (op_apart hI (xs (5 * j + 1)) (xs (5 * j + 2)) 1) rfl ⟨Nat.le_of_ble_eq_true rfl, Nat.le_of_ble_eq_true rfl⟩ (Nat.le_of_ble_eq_true rfl) dL_law_469 (fun v S' V1 h9 => ?_)
    obtain ⟨k, rfl, hk3, rfl, hm⟩ := h9
    refine G_istore_5 C K rfl (by decide) dL_law_472 ?_
    refine G_aload_2 C K dL_law_474 ?_
    refine G_tload_0 C dL_law_475 ?_
    refine G_iload_4 C K dL_law_476 ?_
    refine G_iconst C K (v := 1) dL_law_478 (by decide) ?_
    refine G_iadd C K dL_law_479 ?_
    refine G_sld C hX hb ho (n := 5 * j + 1) (nI_1 _) (by omega) hL dL_law_480 ?_
    refine G_tload_0 C dL_law_481 ?_
    refine G_iload_4 C K dL_law_482 ?_
    refine G_iconst C K (v := 2) dL_law_484 (by decide) ?_
    refine G_iadd C K dL_law_485 ?_
    refine G_sld C hX hb ho (n := 5 * j + 2) (nI_add (5 * j) 2) (by omega) hL dL_law_486 ?_
    refine G_tload_0 C dL_law_487 ?_
    refine G_iload_4 C K dL_law_488 ?_
    refine G_iconst C K (v := 3) dL_law_490 (by decide) ?_
    refine G_iadd C K dL_law_491 ?_
    refine G_sld C hX hb ho (n := 5 * j + 3) (nI_add (5 * j) 3) (by omega) hL dL_law_492 ?_
    refine G_if_eq C K 500 dL_law_493 (by decide) (fun c493 => absurd c493 c460) (fun c493 => ?_)
    refine G_iconst C K (v := 1) dL_law_496 (by decide) ?_
    refine G_goto C K 501 dL_law_497 (by decide) ?_
    refine G_callV (T' := mX12_apart) (As := [_, _, _]) (ci := 12) C K ho hls okX12_apart mlL_112 rfl (by decide) sh_504 hm rfl ⟨Nat.le_of_ble_eq_true rfl, Nat.le_of_ble_eq_true rfl⟩ (Nat.le_of_ble_eq_true rfl) dL_law_501 (fun v S' V2 h8 => ?_) (fun E S' V' h => (show False from h).elim)
    obtain ⟨y, rfl, rfl, m0, m1, m2, hI2⟩ := h8
    refine G_istore_6 C K rfl (by decide) dL_law_504 ?_
    refine G_aload_2 C K dL_law_506 ?_
    refine G_callV_e (T' := mX12_thrown) (As := []) (ci := 12) C K ho hls okX12_thrown mlL_90 rfl (by decide) sh_504 (ct_mthrown m0) rfl ⟨Nat.le_of_ble_eq_true rfl, Nat.le_of_ble_eq_true rfl⟩ (Nat.le_of_ble_eq_true rfl) dL_law_507 ?_
    refine G_iload_5 C K dL_law_510 ?_
    refine G_icmp_eq C K 517 dL_law_512 (by decide) (fun c512 => ?_) (fun c512 => absurd rfl c512)
    refine G_iload_5 C K dL_law_517 ?_
    refine G_if_ne C K 534 dL_law_519 (by decide) (fun c519 => ?_) (fun c519 => ?_)
    · refine G_goto C K 1445 dL_law_534 (by decide) ?_
      refine G_drop_6 C K ?_
      refine G_drop_5 C K ?_
      exact kk _ hI2
    · have hk0 : k = 0 := by
        rcases Nat.eq_zero_or_pos k with z | z
        · exact z
        · exact absurd c519 (nI_ne0 z (by omega))
      refine G_aload_3 C K dL_law_522 ?_
      refine G_iconst C K (v := 0) dL_law_523 (by decide) ?_
      refine G_lald C K dL_law_524 sh_539 (show vp_in (nI 0) 1 from vp_in_nI (by decide) (by decide)) rfl ((congrFun m2 0).trans (m1 hk0)) ?_
      refine G_iload_6 C K dL_law_525 ?_
      refine G_i2l C K dL_law_527 ?_
      refine G_lcmp C K dL_law_528 ?_
      refine G_if_eq C K 534 dL_law_529 (by decide) (fun c529 => ?_) (fun c529 => absurd (lg_same _) c529)
      refine G_goto C K 1445 dL_law_534 (by decide) ?_
      refine G_drop_6 C K ?_
      refine G_drop_5 C K ?_
      exact kk _ hI2
set_option maxHeartbeats 4000000 in
theorem lc_likeness (C : a_CG p s m args meth c mLaw) (K : a_K o x0 cA D s) (hN : aNcs s) (ho : o ≤ s.heap.size) (hls : l.stackTraces = false) (hX : va_X (x0 2) L xs s s.heap) (hb : x0 2 < o) (hL : L ≤ 2560) (hI : LInv V) (hj : 5 * j + 5 ≤ L) (kk : ∀ V', LInv V' → RG p l e room_1 s m args below meth c D cA o x0 mLaw Z kc ks 1445 [some (.retAddr 2), some (.ref 0), some (.ref 504), some (.ref 539), some (.int (nI (5 * j))), none, none] [] Sh V') : RG p l e room_1 s m args below meth c D cA o x0 mLaw Z (kc + 3) (ks + 18) 537 [some (.retAddr 2), some (.ref 0), some (.ref 504), some (.ref 539), some (.int (nI (5 * j))), none, none] [] Sh V := by
  refine G_less (kc' := kc + 2) (ks' := ks + 12) (by omega) (by omega) ?_
  refine G_aload_1 C K dL_law_537 ?_
  refine G_tload_0 C dL_law_538 ?_
  refine G_iload_4 C K dL_law_539 ?_
  refine G_iconst C K (v := 1) dL_law_541 (by decide) ?_
  refine G_iadd C K dL_law_542 ?_
  refine G_sld C hX hb ho (n := 5 * j + 1) (nI_1 _) (by omega) hL dL_law_543 ?_
  refine G_tload_0 C dL_law_544 ?_
  refine G_iload_4 C K dL_law_545 ?_
  refine G_iconst C K (v := 2) dL_law_547 (by decide) ?_
  refine G_iadd C K dL_law_548 ?_
  refine G_sld C hX hb ho (n := 5 * j + 2) (nI_add (5 * j) 2) (by omega) hL dL_law_549 ?_
  refine G_aload_3 C K dL_law_550 ?_
  refine G_callSX (T' := mL_likeness) (hh := hL_likeness) (As := [_, _, _, _]) C K hN ho hls ddL_likeness wi_L chL_likeness stL_likeness mlL_113 (op_likeness hI (xs (5 * j + 1)) (xs (5 * j + 2))) rfl ⟨Nat.le_of_ble_eq_true rfl, Nat.le_of_ble_eq_true rfl⟩ (Nat.le_of_ble_eq_true rfl) dL_law_551 (fun v S' V1 h9 => ?_)
  obtain ⟨k, rfl, hk3, rfl, hm⟩ := h9
  refine G_istore_5 C K rfl (by decide) dL_law_554 ?_
  refine G_aload_2 C K dL_law_556 ?_
  refine G_tload_0 C dL_law_557 ?_
  refine G_iload_4 C K dL_law_558 ?_
  refine G_iconst C K (v := 1) dL_law_560 (by decide) ?_
  refine G_iadd C K dL_law_561 ?_
  refine G_sld C hX hb ho (n := 5 * j + 1) (nI_1 _) (by omega) hL dL_law_562 ?_
  refine G_tload_0 C dL_law_563 ?_
  refine G_iload_4 C K dL_law_564 ?_
  refine G_iconst C K (v := 2) dL_law_566 (by decide) ?_
  refine G_iadd C K dL_law_567 ?_
  refine G_sld C hX hb ho (n := 5 * j + 2) (nI_add (5 * j) 2) (by omega) hL dL_law_568 ?_
  refine G_callV (T' := mX12_likeness) (As := [_, _]) (ci := 12) C K ho hls okX12_likeness mlL_116 rfl (by decide) sh_504 hm rfl ⟨Nat.le_of_ble_eq_true rfl, Nat.le_of_ble_eq_true rfl⟩ (Nat.le_of_ble_eq_true rfl) dL_law_569 (fun v S' V2 h8 => ?_) (fun E S' V' h => (show False from h).elim)
  obtain ⟨y, rfl, rfl, m0, m1, m2, hI2⟩ := h8
  refine G_istore_6 C K rfl (by decide) dL_law_572 ?_
  refine G_aload_2 C K dL_law_574 ?_
  refine G_callV_e (T' := mX12_thrown) (As := []) (ci := 12) C K ho hls okX12_thrown mlL_90 rfl (by decide) sh_504 (ct_mthrown m0) rfl ⟨Nat.le_of_ble_eq_true rfl, Nat.le_of_ble_eq_true rfl⟩ (Nat.le_of_ble_eq_true rfl) dL_law_575 ?_
  refine G_iload_5 C K dL_law_578 ?_
  refine G_icmp_eq C K 585 dL_law_580 (by decide) (fun c580 => ?_) (fun c580 => absurd rfl c580)
  refine G_iload_5 C K dL_law_585 ?_
  refine G_if_ne C K 602 dL_law_587 (by decide) (fun c587 => ?_) (fun c587 => ?_)
  · refine G_goto C K 1445 dL_law_602 (by decide) ?_
    refine G_drop_6 C K ?_
    refine G_drop_5 C K ?_
    exact kk _ hI2
  · have hk0 : k = 0 := by
      rcases Nat.eq_zero_or_pos k with z | z
      · exact z
      · exact absurd c587 (nI_ne0 z (by omega))
    refine G_aload_3 C K dL_law_590 ?_
    refine G_iconst C K (v := 0) dL_law_591 (by decide) ?_
    refine G_lald C K dL_law_592 sh_539 (show vp_in (nI 0) 1 from vp_in_nI (by decide) (by decide)) rfl ((congrFun m2 0).trans (m1 hk0)) ?_
    refine G_iload_6 C K dL_law_593 ?_
    refine G_i2l C K dL_law_595 ?_
    refine G_lcmp C K dL_law_596 ?_
    refine G_if_eq C K 602 dL_law_597 (by decide) (fun c597 => ?_) (fun c597 => absurd (lg_same _) c597)
    refine G_goto C K 1445 dL_law_602 (by decide) ?_
    refine G_drop_6 C K ?_
    refine G_drop_5 C K ?_
    exact kk _ hI2
set_option maxHeartbeats 4000000 in
theorem lc_pairs (C : a_CG p s m args meth c mLaw) (K : a_K o x0 cA D s) (hN : aNcs s) (ho : o ≤ s.heap.size) (hls : l.stackTraces = false) (hX : va_X (x0 2) L xs s s.heap) (hb : x0 2 < o) (hL : L ≤ 2560) (hI : LInv V) (hj : 5 * j + 5 ≤ L) (kk : ∀ V', LInv V' → RG p l e room_1 s m args below meth c D cA o x0 mLaw Z kc ks 1445 [some (.retAddr 2), some (.ref 0), some (.ref 504), some (.ref 539), some (.int (nI (5 * j))), none, none] [] Sh V') : RG p l e room_1 s m args below meth c D cA o x0 mLaw Z (kc + 3) (ks + 18) 605 [some (.retAddr 2), some (.ref 0), some (.ref 504), some (.ref 539), some (.int (nI (5 * j))), none, none] [] Sh V := by
  refine G_less (kc' := kc + 1) (ks' := ks + 6) (by omega) (by omega) ?_
  refine G_aload_1 C K dL_law_605 ?_
  refine G_tload_0 C dL_law_606 ?_
  refine G_iload_4 C K dL_law_607 ?_
  refine G_iconst C K (v := 1) dL_law_609 (by decide) ?_
  refine G_iadd C K dL_law_610 ?_
  refine G_sld C hX hb ho (n := 5 * j + 1) (nI_1 _) (by omega) hL dL_law_611 ?_
  refine G_aload_3 C K dL_law_612 ?_
  refine G_callSX (T' := mL_pairs) (hh := hL_pairs) (As := [_, _, _]) C K hN ho hls ddL_pairs wi_L chL_pairs stL_pairs mlL_117 (op_pairs hI (xs (5 * j + 1))) rfl ⟨Nat.le_of_ble_eq_true rfl, Nat.le_of_ble_eq_true rfl⟩ (Nat.le_of_ble_eq_true rfl) dL_law_613 (fun v S' V1 h9 => ?_)
  obtain ⟨k, rfl, hk3, rfl, hm⟩ := h9
  refine G_istore_5 C K rfl (by decide) dL_law_616 ?_
  refine G_aload_2 C K dL_law_618 ?_
  refine G_tload_0 C dL_law_619 ?_
  refine G_iload_4 C K dL_law_620 ?_
  refine G_iconst C K (v := 1) dL_law_622 (by decide) ?_
  refine G_iadd C K dL_law_623 ?_
  refine G_sld C hX hb ho (n := 5 * j + 1) (nI_1 _) (by omega) hL dL_law_624 ?_
  refine G_callV (T' := mX12_pairs) (As := [_]) (ci := 12) C K ho hls okX12_pairs mlL_119 rfl (by decide) sh_504 hm rfl ⟨Nat.le_of_ble_eq_true rfl, Nat.le_of_ble_eq_true rfl⟩ (Nat.le_of_ble_eq_true rfl) dL_law_625 (fun v S' V2 h8 => ?_) (fun E S' V' h => (show False from h).elim)
  obtain ⟨y, rfl, rfl, m0, m1, m2, hI2⟩ := h8
  refine G_istore_6 C K rfl (by decide) dL_law_628 ?_
  refine G_aload_2 C K dL_law_630 ?_
  refine G_callV_e (T' := mX12_thrown) (As := []) (ci := 12) C K ho hls okX12_thrown mlL_90 rfl (by decide) sh_504 (ct_mthrown m0) rfl ⟨Nat.le_of_ble_eq_true rfl, Nat.le_of_ble_eq_true rfl⟩ (Nat.le_of_ble_eq_true rfl) dL_law_631 ?_
  refine G_iload_5 C K dL_law_634 ?_
  refine G_icmp_eq C K 641 dL_law_636 (by decide) (fun c636 => ?_) (fun c636 => absurd rfl c636)
  refine G_iload_5 C K dL_law_641 ?_
  refine G_if_ne C K 658 dL_law_643 (by decide) (fun c643 => ?_) (fun c643 => ?_)
  · refine G_goto C K 1445 dL_law_658 (by decide) ?_
    refine G_drop_6 C K ?_
    refine G_drop_5 C K ?_
    exact kk _ hI2
  · have hk0 : k = 0 := by
      rcases Nat.eq_zero_or_pos k with z | z
      · exact z
      · exact absurd c643 (nI_ne0 z (by omega))
    refine G_aload_3 C K dL_law_646 ?_
    refine G_iconst C K (v := 0) dL_law_647 (by decide) ?_
    refine G_lald C K dL_law_648 sh_539 (show vp_in (nI 0) 1 from vp_in_nI (by decide) (by decide)) rfl ((congrFun m2 0).trans (m1 hk0)) ?_
    refine G_iload_6 C K dL_law_649 ?_
    refine G_i2l C K dL_law_651 ?_
    refine G_lcmp C K dL_law_652 ?_
    refine G_if_eq C K 658 dL_law_653 (by decide) (fun c653 => ?_) (fun c653 => absurd (lg_same _) c653)
    refine G_goto C K 1445 dL_law_658 (by decide) ?_
    refine G_drop_6 C K ?_
    refine G_drop_5 C K ?_
    exact kk _ hI2
set_option maxHeartbeats 4000000 in
theorem lc_match (C : a_CG p s m args meth c mLaw) (K : a_K o x0 cA D s) (hN : aNcs s) (ho : o ≤ s.heap.size) (hls : l.stackTraces = false) (hX : va_X (x0 2) L xs s s.heap) (hb : x0 2 < o) (hL : L ≤ 2560) (hI : LInv V) (hj : 5 * j + 5 ≤ L) (kk : ∀ V', LInv V' → RG p l e room_1 s m args below meth c D cA o x0 mLaw Z kc ks 1445 [some (.retAddr 2), some (.ref 0), some (.ref 504), some (.ref 539), some (.int (nI (5 * j))), none, none] [] Sh V') : RG p l e room_1 s m args below meth c D cA o x0 mLaw Z (kc + 3) (ks + 18) 661 [some (.retAddr 2), some (.ref 0), some (.ref 504), some (.ref 539), some (.int (nI (5 * j))), none, none] [] Sh V := by
  refine G_less (kc' := kc + 3) (ks' := ks + 18) (by omega) (by omega) ?_
  refine G_aload_1 C K dL_law_661 ?_
  refine G_tload_0 C dL_law_662 ?_
  refine G_iload_4 C K dL_law_663 ?_
  refine G_iconst C K (v := 1) dL_law_665 (by decide) ?_
  refine G_iadd C K dL_law_666 ?_
  refine G_sld C hX hb ho (n := 5 * j + 1) (nI_1 _) (by omega) hL dL_law_667 ?_
  refine G_tload_0 C dL_law_668 ?_
  refine G_iload_4 C K dL_law_669 ?_
  refine G_iconst C K (v := 2) dL_law_671 (by decide) ?_
  refine G_iadd C K dL_law_672 ?_
  refine G_sld C hX hb ho (n := 5 * j + 2) (nI_add (5 * j) 2) (by omega) hL dL_law_673 ?_
  refine G_aload_3 C K dL_law_674 ?_
  refine G_callSX (T' := mL_match) (hh := hL_match) (As := [_, _, _, _]) C K hN ho hls ddL_match wi_L chL_match stL_match mlL_120 (op_match hI (xs (5 * j + 1)) (xs (5 * j + 2))) rfl ⟨Nat.le_of_ble_eq_true rfl, Nat.le_of_ble_eq_true rfl⟩ (Nat.le_of_ble_eq_true rfl) dL_law_675 (fun v S' V1 h9 => ?_)
  obtain ⟨k, rfl, hk3, rfl, hm⟩ := h9
  refine G_istore_5 C K rfl (by decide) dL_law_678 ?_
  refine G_aload_2 C K dL_law_680 ?_
  refine G_tload_0 C dL_law_681 ?_
  refine G_iload_4 C K dL_law_682 ?_
  refine G_iconst C K (v := 1) dL_law_684 (by decide) ?_
  refine G_iadd C K dL_law_685 ?_
  refine G_sld C hX hb ho (n := 5 * j + 1) (nI_1 _) (by omega) hL dL_law_686 ?_
  refine G_tload_0 C dL_law_687 ?_
  refine G_iload_4 C K dL_law_688 ?_
  refine G_iconst C K (v := 2) dL_law_690 (by decide) ?_
  refine G_iadd C K dL_law_691 ?_
  refine G_sld C hX hb ho (n := 5 * j + 2) (nI_add (5 * j) 2) (by omega) hL dL_law_692 ?_
  refine G_callV (T' := mX12_match) (As := [_, _]) (ci := 12) C K ho hls okX12_match mlL_122 rfl (by decide) sh_504 hm rfl ⟨Nat.le_of_ble_eq_true rfl, Nat.le_of_ble_eq_true rfl⟩ (Nat.le_of_ble_eq_true rfl) dL_law_693 (fun v S' V2 h8 => ?_) (fun E S' V' h => (show False from h).elim)
  obtain ⟨y, rfl, rfl, m0, m1, m2, hI2⟩ := h8
  refine G_istore_6 C K rfl (by decide) dL_law_696 ?_
  refine G_aload_2 C K dL_law_698 ?_
  refine G_callV_e (T' := mX12_thrown) (As := []) (ci := 12) C K ho hls okX12_thrown mlL_90 rfl (by decide) sh_504 (ct_mthrown m0) rfl ⟨Nat.le_of_ble_eq_true rfl, Nat.le_of_ble_eq_true rfl⟩ (Nat.le_of_ble_eq_true rfl) dL_law_699 ?_
  refine G_iload_5 C K dL_law_702 ?_
  refine G_icmp_eq C K 709 dL_law_704 (by decide) (fun c704 => ?_) (fun c704 => absurd rfl c704)
  refine G_iload_5 C K dL_law_709 ?_
  refine G_if_ne C K 733 dL_law_711 (by decide) (fun c711 => ?_) (fun c711 => ?_)
  · refine G_goto C K 1445 dL_law_733 (by decide) ?_
    refine G_drop_6 C K ?_
    refine G_drop_5 C K ?_
    exact kk _ hI2
  · have hk0 : k = 0 := by
      rcases Nat.eq_zero_or_pos k with z | z
      · exact z
      · exact absurd c711 (nI_ne0 z (by omega))
    refine G_aload_3 C K dL_law_714 ?_
    refine G_iconst C K (v := 0) dL_law_715 (by decide) ?_
    refine G_lald C K dL_law_716 sh_539 (show vp_in (nI 0) 1 from vp_in_nI (by decide) (by decide)) rfl ((congrFun m2 0).trans (m1 hk0)) ?_
    refine G_iload_6 C K dL_law_717 ?_
    refine G_if_eq C K 726 dL_law_719 (by decide) (fun c719 => ?_) (fun c719 => ?_)
    · refine G_lconst C K (v := 0) dL_law_726 (by decide) ?_
      refine G_lcmp C K dL_law_727 ?_
      refine G_if_eq C K 733 dL_law_728 (by decide) (fun c728 => ?_) (fun c728 => absurd (show lg_cmp (if y = 0 then (0 : Int64) else 1) 0 = 0 by rw [if_pos c719]; exact lg_same _) c728)
      refine G_goto C K 1445 dL_law_733 (by decide) ?_
      refine G_drop_6 C K ?_
      refine G_drop_5 C K ?_
      exact kk _ hI2
    · refine G_lconst C K (v := 1) dL_law_722 (by decide) ?_
      refine G_goto C K 727 dL_law_723 (by decide) ?_
      refine G_lcmp C K dL_law_727 ?_
      refine G_if_eq C K 733 dL_law_728 (by decide) (fun c728 => ?_) (fun c728 => absurd (show lg_cmp (if y = 0 then (0 : Int64) else 1) 1 = 0 by rw [if_neg c719]; exact lg_same _) c728)
      refine G_goto C K 1445 dL_law_733 (by decide) ?_
      refine G_drop_6 C K ?_
      refine G_drop_5 C K ?_
      exact kk _ hI2
set_option maxHeartbeats 4000000 in
theorem lc_group (C : a_CG p s m args meth c mLaw) (K : a_K o x0 cA D s) (hN : aNcs s) (ho : o ≤ s.heap.size) (hls : l.stackTraces = false) (hX : va_X (x0 2) L xs s s.heap) (hb : x0 2 < o) (hL : L ≤ 2560) (hI : LInv V) (hj : 5 * j + 5 ≤ L) (kk : ∀ V', LInv V' → RG p l e room_1 s m args below meth c D cA o x0 mLaw Z kc ks 1445 [some (.retAddr 2), some (.ref 0), some (.ref 504), some (.ref 539), some (.int (nI (5 * j))), none, none] [] Sh V') : RG p l e room_1 s m args below meth c D cA o x0 mLaw Z (kc + 3) (ks + 18) 736 [some (.retAddr 2), some (.ref 0), some (.ref 504), some (.ref 539), some (.int (nI (5 * j))), none, none] [] Sh V := by
  refine G_less (kc' := kc + 1) (ks' := ks + 6) (by omega) (by omega) ?_
  refine G_aload_1 C K dL_law_736 ?_
  refine G_tload_0 C dL_law_737 ?_
  refine G_iload_4 C K dL_law_738 ?_
  refine G_iconst C K (v := 1) dL_law_740 (by decide) ?_
  refine G_iadd C K dL_law_741 ?_
  refine G_sld C hX hb ho (n := 5 * j + 1) (nI_1 _) (by omega) hL dL_law_742 ?_
  refine G_aload_3 C K dL_law_743 ?_
  refine G_callSX (T' := mL_group) (hh := hL_group) (As := [_, _, _]) C K hN ho hls ddL_group wi_L chL_group stL_group mlL_123 (op_group hI (xs (5 * j + 1))) rfl ⟨Nat.le_of_ble_eq_true rfl, Nat.le_of_ble_eq_true rfl⟩ (Nat.le_of_ble_eq_true rfl) dL_law_744 (fun v S' V1 h9 => ?_)
  obtain ⟨k, rfl, hk3, rfl, hm⟩ := h9
  refine G_istore_5 C K rfl (by decide) dL_law_747 ?_
  refine G_aload_2 C K dL_law_749 ?_
  refine G_tload_0 C dL_law_750 ?_
  refine G_iload_4 C K dL_law_751 ?_
  refine G_iconst C K (v := 1) dL_law_753 (by decide) ?_
  refine G_iadd C K dL_law_754 ?_
  refine G_sld C hX hb ho (n := 5 * j + 1) (nI_1 _) (by omega) hL dL_law_755 ?_
  refine G_callV (T' := mX12_group) (As := [_]) (ci := 12) C K ho hls okX12_group mlL_125 rfl (by decide) sh_504 hm rfl ⟨Nat.le_of_ble_eq_true rfl, Nat.le_of_ble_eq_true rfl⟩ (Nat.le_of_ble_eq_true rfl) dL_law_756 (fun v S' V2 h8 => ?_) (fun E S' V' h => (show False from h).elim)
  obtain ⟨y, rfl, rfl, m0, m1, m2, hI2⟩ := h8
  refine G_istore_6 C K rfl (by decide) dL_law_759 ?_
  refine G_aload_2 C K dL_law_761 ?_
  refine G_callV_e (T' := mX12_thrown) (As := []) (ci := 12) C K ho hls okX12_thrown mlL_90 rfl (by decide) sh_504 (ct_mthrown m0) rfl ⟨Nat.le_of_ble_eq_true rfl, Nat.le_of_ble_eq_true rfl⟩ (Nat.le_of_ble_eq_true rfl) dL_law_762 ?_
  refine G_iload_5 C K dL_law_765 ?_
  refine G_icmp_eq C K 772 dL_law_767 (by decide) (fun c767 => ?_) (fun c767 => absurd rfl c767)
  refine G_iload_5 C K dL_law_772 ?_
  refine G_if_ne C K 789 dL_law_774 (by decide) (fun c774 => ?_) (fun c774 => ?_)
  · refine G_goto C K 1445 dL_law_789 (by decide) ?_
    refine G_drop_6 C K ?_
    refine G_drop_5 C K ?_
    exact kk _ hI2
  · have hk0 : k = 0 := by
      rcases Nat.eq_zero_or_pos k with z | z
      · exact z
      · exact absurd c774 (nI_ne0 z (by omega))
    refine G_aload_3 C K dL_law_777 ?_
    refine G_iconst C K (v := 0) dL_law_778 (by decide) ?_
    refine G_lald C K dL_law_779 sh_539 (show vp_in (nI 0) 1 from vp_in_nI (by decide) (by decide)) rfl ((congrFun m2 0).trans (m1 hk0)) ?_
    refine G_iload_6 C K dL_law_780 ?_
    refine G_i2l C K dL_law_782 ?_
    refine G_lcmp C K dL_law_783 ?_
    refine G_if_eq C K 789 dL_law_784 (by decide) (fun c784 => ?_) (fun c784 => absurd (lg_same _) c784)
    refine G_goto C K 1445 dL_law_789 (by decide) ?_
    refine G_drop_6 C K ?_
    refine G_drop_5 C K ?_
    exact kk _ hI2
set_option maxHeartbeats 4000000 in
theorem lc_franking (C : a_CG p s m args meth c mLaw) (K : a_K o x0 cA D s) (hN : aNcs s) (ho : o ≤ s.heap.size) (hls : l.stackTraces = false) (hX : va_X (x0 2) L xs s s.heap) (hb : x0 2 < o) (hL : L ≤ 2560) (hI : LInv V) (hj : 5 * j + 5 ≤ L) (kk : ∀ V', LInv V' → RG p l e room_1 s m args below meth c D cA o x0 mLaw Z kc ks 1445 [some (.retAddr 2), some (.ref 0), some (.ref 504), some (.ref 539), some (.int (nI (5 * j))), none, none] [] Sh V') : RG p l e room_1 s m args below meth c D cA o x0 mLaw Z (kc + 3) (ks + 18) 792 [some (.retAddr 2), some (.ref 0), some (.ref 504), some (.ref 539), some (.int (nI (5 * j))), none, none] [] Sh V := by
  refine G_less (kc' := kc + 1) (ks' := ks + 6) (by omega) (by omega) ?_
  refine G_aload_1 C K dL_law_792 ?_
  refine G_tload_0 C dL_law_793 ?_
  refine G_iload_4 C K dL_law_794 ?_
  refine G_iconst C K (v := 1) dL_law_796 (by decide) ?_
  refine G_iadd C K dL_law_797 ?_
  refine G_sld C hX hb ho (n := 5 * j + 1) (nI_1 _) (by omega) hL dL_law_798 ?_
  refine G_tload_0 C dL_law_799 ?_
  refine G_iload_4 C K dL_law_800 ?_
  refine G_iconst C K (v := 2) dL_law_802 (by decide) ?_
  refine G_iadd C K dL_law_803 ?_
  refine G_sld C hX hb ho (n := 5 * j + 2) (nI_add (5 * j) 2) (by omega) hL dL_law_804 ?_
  refine G_aload_3 C K dL_law_805 ?_
  refine G_callSX (T' := mL_franking) (hh := hL_franking) (As := [_, _, _, _]) C K hN ho hls ddL_franking wi_L chL_franking stL_franking mlL_126 (op_franking hI (xs (5 * j + 1)) (xs (5 * j + 2))) rfl ⟨Nat.le_of_ble_eq_true rfl, Nat.le_of_ble_eq_true rfl⟩ (Nat.le_of_ble_eq_true rfl) dL_law_806 (fun v S' V1 h9 => ?_)
  obtain ⟨k, rfl, hk3, rfl, hm⟩ := h9
  refine G_istore_5 C K rfl (by decide) dL_law_809 ?_
  refine G_aload_2 C K dL_law_811 ?_
  refine G_tload_0 C dL_law_812 ?_
  refine G_iload_4 C K dL_law_813 ?_
  refine G_iconst C K (v := 1) dL_law_815 (by decide) ?_
  refine G_iadd C K dL_law_816 ?_
  refine G_sld C hX hb ho (n := 5 * j + 1) (nI_1 _) (by omega) hL dL_law_817 ?_
  refine G_tload_0 C dL_law_818 ?_
  refine G_iload_4 C K dL_law_819 ?_
  refine G_iconst C K (v := 2) dL_law_821 (by decide) ?_
  refine G_iadd C K dL_law_822 ?_
  refine G_sld C hX hb ho (n := 5 * j + 2) (nI_add (5 * j) 2) (by omega) hL dL_law_823 ?_
  refine G_callV (T' := mX12_franking) (As := [_, _]) (ci := 12) C K ho hls okX12_franking mlL_128 rfl (by decide) sh_504 hm rfl ⟨Nat.le_of_ble_eq_true rfl, Nat.le_of_ble_eq_true rfl⟩ (Nat.le_of_ble_eq_true rfl) dL_law_824 (fun v S' V2 h8 => ?_) (fun E S' V' h => (show False from h).elim)
  obtain ⟨y, rfl, rfl, m0, m1, m2, hI2⟩ := h8
  refine G_istore_6 C K rfl (by decide) dL_law_827 ?_
  refine G_aload_2 C K dL_law_829 ?_
  refine G_callV_e (T' := mX12_thrown) (As := []) (ci := 12) C K ho hls okX12_thrown mlL_90 rfl (by decide) sh_504 (ct_mthrown m0) rfl ⟨Nat.le_of_ble_eq_true rfl, Nat.le_of_ble_eq_true rfl⟩ (Nat.le_of_ble_eq_true rfl) dL_law_830 ?_
  refine G_iload_5 C K dL_law_833 ?_
  refine G_icmp_eq C K 840 dL_law_835 (by decide) (fun c835 => ?_) (fun c835 => absurd rfl c835)
  refine G_iload_5 C K dL_law_840 ?_
  refine G_if_ne C K 857 dL_law_842 (by decide) (fun c842 => ?_) (fun c842 => ?_)
  · refine G_goto C K 1445 dL_law_857 (by decide) ?_
    refine G_drop_6 C K ?_
    refine G_drop_5 C K ?_
    exact kk _ hI2
  · have hk0 : k = 0 := by
      rcases Nat.eq_zero_or_pos k with z | z
      · exact z
      · exact absurd c842 (nI_ne0 z (by omega))
    refine G_aload_3 C K dL_law_845 ?_
    refine G_iconst C K (v := 0) dL_law_846 (by decide) ?_
    refine G_lald C K dL_law_847 sh_539 (show vp_in (nI 0) 1 from vp_in_nI (by decide) (by decide)) rfl ((congrFun m2 0).trans (m1 hk0)) ?_
    refine G_iload_6 C K dL_law_848 ?_
    refine G_i2l C K dL_law_850 ?_
    refine G_lcmp C K dL_law_851 ?_
    refine G_if_eq C K 857 dL_law_852 (by decide) (fun c852 => ?_) (fun c852 => absurd (lg_same _) c852)
    refine G_goto C K 1445 dL_law_857 (by decide) ?_
    refine G_drop_6 C K ?_
    refine G_drop_5 C K ?_
    exact kk _ hI2
set_option maxHeartbeats 4000000 in
theorem lc_run (C : a_CG p s m args meth c mLaw) (K : a_K o x0 cA D s) (hN : aNcs s) (ho : o ≤ s.heap.size) (hls : l.stackTraces = false) (hX : va_X (x0 2) L xs s s.heap) (hb : x0 2 < o) (hL : L ≤ 2560) (hI : LInv V) (hj : 5 * j + 5 ≤ L) (kk : ∀ V', LInv V' → RG p l e room_1 s m args below meth c D cA o x0 mLaw Z kc ks 1445 [some (.retAddr 2), some (.ref 0), some (.ref 504), some (.ref 539), some (.int (nI (5 * j))), none, none] [] Sh V') : RG p l e room_1 s m args below meth c D cA o x0 mLaw Z (kc + 3) (ks + 18) 860 [some (.retAddr 2), some (.ref 0), some (.ref 504), some (.ref 539), some (.int (nI (5 * j))), none, none] [] Sh V := by
  refine G_less (kc' := kc + 2) (ks' := ks + 12) (by omega) (by omega) ?_
  refine G_aload_1 C K dL_law_860 ?_
  refine G_tload_0 C dL_law_861 ?_
  refine G_iload_4 C K dL_law_862 ?_
  refine G_iconst C K (v := 1) dL_law_864 (by decide) ?_
  refine G_iadd C K dL_law_865 ?_
  refine G_sld C hX hb ho (n := 5 * j + 1) (nI_1 _) (by omega) hL dL_law_866 ?_
  refine G_tload_0 C dL_law_867 ?_
  refine G_iload_4 C K dL_law_868 ?_
  refine G_iconst C K (v := 2) dL_law_870 (by decide) ?_
  refine G_iadd C K dL_law_871 ?_
  refine G_sld C hX hb ho (n := 5 * j + 2) (nI_add (5 * j) 2) (by omega) hL dL_law_872 ?_
  refine G_aload_3 C K dL_law_873 ?_
  refine G_callSX (T' := mL_run) (hh := hL_run) (As := [_, _, _, _]) C K hN ho hls ddL_run wi_L chL_run stL_run mlL_129 (op_run hI (xs (5 * j + 1)) (xs (5 * j + 2))) rfl ⟨Nat.le_of_ble_eq_true rfl, Nat.le_of_ble_eq_true rfl⟩ (Nat.le_of_ble_eq_true rfl) dL_law_874 (fun v S' V1 h9 => ?_)
  obtain ⟨k, rfl, hk3, rfl, hm⟩ := h9
  refine G_istore_5 C K rfl (by decide) dL_law_877 ?_
  refine G_aload_2 C K dL_law_879 ?_
  refine G_tload_0 C dL_law_880 ?_
  refine G_iload_4 C K dL_law_881 ?_
  refine G_iconst C K (v := 1) dL_law_883 (by decide) ?_
  refine G_iadd C K dL_law_884 ?_
  refine G_sld C hX hb ho (n := 5 * j + 1) (nI_1 _) (by omega) hL dL_law_885 ?_
  refine G_tload_0 C dL_law_886 ?_
  refine G_iload_4 C K dL_law_887 ?_
  refine G_iconst C K (v := 2) dL_law_889 (by decide) ?_
  refine G_iadd C K dL_law_890 ?_
  refine G_sld C hX hb ho (n := 5 * j + 2) (nI_add (5 * j) 2) (by omega) hL dL_law_891 ?_
  refine G_callV (T' := mX12_run) (As := [_, _]) (ci := 12) C K ho hls okX12_run mlL_131 rfl (by decide) sh_504 hm rfl ⟨Nat.le_of_ble_eq_true rfl, Nat.le_of_ble_eq_true rfl⟩ (Nat.le_of_ble_eq_true rfl) dL_law_892 (fun v S' V2 h8 => ?_) (fun E S' V' h => (show False from h).elim)
  obtain ⟨y, rfl, rfl, m0, m1, m2, hI2⟩ := h8
  refine G_istore_6 C K rfl (by decide) dL_law_895 ?_
  refine G_aload_2 C K dL_law_897 ?_
  refine G_callV_e (T' := mX12_thrown) (As := []) (ci := 12) C K ho hls okX12_thrown mlL_90 rfl (by decide) sh_504 (ct_mthrown m0) rfl ⟨Nat.le_of_ble_eq_true rfl, Nat.le_of_ble_eq_true rfl⟩ (Nat.le_of_ble_eq_true rfl) dL_law_898 ?_
  refine G_iload_5 C K dL_law_901 ?_
  refine G_icmp_eq C K 908 dL_law_903 (by decide) (fun c903 => ?_) (fun c903 => absurd rfl c903)
  refine G_iload_5 C K dL_law_908 ?_
  refine G_if_ne C K 925 dL_law_910 (by decide) (fun c910 => ?_) (fun c910 => ?_)
  · refine G_goto C K 1445 dL_law_925 (by decide) ?_
    refine G_drop_6 C K ?_
    refine G_drop_5 C K ?_
    exact kk _ hI2
  · have hk0 : k = 0 := by
      rcases Nat.eq_zero_or_pos k with z | z
      · exact z
      · exact absurd c910 (nI_ne0 z (by omega))
    refine G_aload_3 C K dL_law_913 ?_
    refine G_iconst C K (v := 0) dL_law_914 (by decide) ?_
    refine G_lald C K dL_law_915 sh_539 (show vp_in (nI 0) 1 from vp_in_nI (by decide) (by decide)) rfl ((congrFun m2 0).trans (m1 hk0)) ?_
    refine G_iload_6 C K dL_law_916 ?_
    refine G_i2l C K dL_law_918 ?_
    refine G_lcmp C K dL_law_919 ?_
    refine G_if_eq C K 925 dL_law_920 (by decide) (fun c920 => ?_) (fun c920 => absurd (lg_same _) c920)
    refine G_goto C K 1445 dL_law_925 (by decide) ?_
    refine G_drop_6 C K ?_
    refine G_drop_5 C K ?_
    exact kk _ hI2
set_option maxHeartbeats 4000000 in
theorem lc_letters (C : a_CG p s m args meth c mLaw) (K : a_K o x0 cA D s) (hN : aNcs s) (ho : o ≤ s.heap.size) (hls : l.stackTraces = false) (hX : va_X (x0 2) L xs s s.heap) (hb : x0 2 < o) (hL : L ≤ 2560) (hI : LInv V) (hj : 5 * j + 5 ≤ L) (kk : ∀ V', LInv V' → RG p l e room_1 s m args below meth c D cA o x0 mLaw Z kc ks 1445 [some (.retAddr 2), some (.ref 0), some (.ref 504), some (.ref 539), some (.int (nI (5 * j))), none, none] [] Sh V') : RG p l e room_1 s m args below meth c D cA o x0 mLaw Z (kc + 3) (ks + 18) 928 [some (.retAddr 2), some (.ref 0), some (.ref 504), some (.ref 539), some (.int (nI (5 * j))), none, none] [] Sh V := by
  refine G_less (kc' := kc + 1) (ks' := ks + 6) (by omega) (by omega) ?_
  refine G_aload_1 C K dL_law_928 ?_
  refine G_tload_0 C dL_law_929 ?_
  refine G_iload_4 C K dL_law_930 ?_
  refine G_iconst C K (v := 1) dL_law_932 (by decide) ?_
  refine G_iadd C K dL_law_933 ?_
  refine G_sld C hX hb ho (n := 5 * j + 1) (nI_1 _) (by omega) hL dL_law_934 ?_
  refine G_aload_3 C K dL_law_935 ?_
  refine G_callSX (T' := mL_letters) (hh := hL_letters) (As := [_, _, _]) C K hN ho hls ddL_letters wi_L chL_letters stL_letters mlL_132 (op_letters hI (xs (5 * j + 1))) rfl ⟨Nat.le_of_ble_eq_true rfl, Nat.le_of_ble_eq_true rfl⟩ (Nat.le_of_ble_eq_true rfl) dL_law_936 (fun v S' V1 h9 => ?_)
  obtain ⟨k, rfl, hk3, rfl, hm⟩ := h9
  refine G_istore_5 C K rfl (by decide) dL_law_939 ?_
  refine G_aload_2 C K dL_law_941 ?_
  refine G_tload_0 C dL_law_942 ?_
  refine G_iload_4 C K dL_law_943 ?_
  refine G_iconst C K (v := 1) dL_law_945 (by decide) ?_
  refine G_iadd C K dL_law_946 ?_
  refine G_sld C hX hb ho (n := 5 * j + 1) (nI_1 _) (by omega) hL dL_law_947 ?_
  refine G_callV (T' := mX12_letters) (As := [_]) (ci := 12) C K ho hls okX12_letters mlL_134 rfl (by decide) sh_504 hm rfl ⟨Nat.le_of_ble_eq_true rfl, Nat.le_of_ble_eq_true rfl⟩ (Nat.le_of_ble_eq_true rfl) dL_law_948 (fun v S' V2 h8 => ?_) (fun E S' V' h => (show False from h).elim)
  obtain ⟨y, rfl, rfl, m0, m1, m2, hI2⟩ := h8
  refine G_istore_6 C K rfl (by decide) dL_law_951 ?_
  refine G_aload_2 C K dL_law_953 ?_
  refine G_callV_e (T' := mX12_thrown) (As := []) (ci := 12) C K ho hls okX12_thrown mlL_90 rfl (by decide) sh_504 (ct_mthrown m0) rfl ⟨Nat.le_of_ble_eq_true rfl, Nat.le_of_ble_eq_true rfl⟩ (Nat.le_of_ble_eq_true rfl) dL_law_954 ?_
  refine G_iload_5 C K dL_law_957 ?_
  refine G_icmp_eq C K 964 dL_law_959 (by decide) (fun c959 => ?_) (fun c959 => absurd rfl c959)
  refine G_iload_5 C K dL_law_964 ?_
  refine G_if_ne C K 981 dL_law_966 (by decide) (fun c966 => ?_) (fun c966 => ?_)
  · refine G_goto C K 1445 dL_law_981 (by decide) ?_
    refine G_drop_6 C K ?_
    refine G_drop_5 C K ?_
    exact kk _ hI2
  · have hk0 : k = 0 := by
      rcases Nat.eq_zero_or_pos k with z | z
      · exact z
      · exact absurd c966 (nI_ne0 z (by omega))
    refine G_aload_3 C K dL_law_969 ?_
    refine G_iconst C K (v := 0) dL_law_970 (by decide) ?_
    refine G_lald C K dL_law_971 sh_539 (show vp_in (nI 0) 1 from vp_in_nI (by decide) (by decide)) rfl ((congrFun m2 0).trans (m1 hk0)) ?_
    refine G_iload_6 C K dL_law_972 ?_
    refine G_i2l C K dL_law_974 ?_
    refine G_lcmp C K dL_law_975 ?_
    refine G_if_eq C K 981 dL_law_976 (by decide) (fun c976 => ?_) (fun c976 => absurd (lg_same _) c976)
    refine G_goto C K 1445 dL_law_981 (by decide) ?_
    refine G_drop_6 C K ?_
    refine G_drop_5 C K ?_
    exact kk _ hI2
set_option maxHeartbeats 4000000 in
theorem lc_letter (C : a_CG p s m args meth c mLaw) (K : a_K o x0 cA D s) (hN : aNcs s) (ho : o ≤ s.heap.size) (hls : l.stackTraces = false) (hX : va_X (x0 2) L xs s s.heap) (hb : x0 2 < o) (hL : L ≤ 2560) (hI : LInv V) (hj : 5 * j + 5 ≤ L) (kk : ∀ V', LInv V' → RG p l e room_1 s m args below meth c D cA o x0 mLaw Z kc ks 1445 [some (.retAddr 2), some (.ref 0), some (.ref 504), some (.ref 539), some (.int (nI (5 * j))), none, none] [] Sh V') : RG p l e room_1 s m args below meth c D cA o x0 mLaw Z (kc + 3) (ks + 18) 984 [some (.retAddr 2), some (.ref 0), some (.ref 504), some (.ref 539), some (.int (nI (5 * j))), none, none] [] Sh V := by
  refine G_less (kc' := kc + 3) (ks' := ks + 18) (by omega) (by omega) ?_
  refine G_aload_1 C K dL_law_984 ?_
  refine G_tload_0 C dL_law_985 ?_
  refine G_iload_4 C K dL_law_986 ?_
  refine G_iconst C K (v := 1) dL_law_988 (by decide) ?_
  refine G_iadd C K dL_law_989 ?_
  refine G_sld C hX hb ho (n := 5 * j + 1) (nI_1 _) (by omega) hL dL_law_990 ?_
  refine G_tload_0 C dL_law_991 ?_
  refine G_iload_4 C K dL_law_992 ?_
  refine G_iconst C K (v := 2) dL_law_994 (by decide) ?_
  refine G_iadd C K dL_law_995 ?_
  refine G_sld C hX hb ho (n := 5 * j + 2) (nI_add (5 * j) 2) (by omega) hL dL_law_996 ?_
  refine G_tload_0 C dL_law_997 ?_
  refine G_iload_4 C K dL_law_998 ?_
  refine G_iconst C K (v := 3) dL_law_1000 (by decide) ?_
  refine G_iadd C K dL_law_1001 ?_
  refine G_sld C hX hb ho (n := 5 * j + 3) (nI_add (5 * j) 3) (by omega) hL dL_law_1002 ?_
  refine G_aload_3 C K dL_law_1003 ?_
  refine G_callSX (T' := mL_letter) (hh := hL_letter) (As := [_, _, _, _, _]) C K hN ho hls ddL_letter wi_L chL_letter stL_letter mlL_135 (op_letter hI (xs (5 * j + 1)) (xs (5 * j + 2)) (xs (5 * j + 3))) rfl ⟨Nat.le_of_ble_eq_true rfl, Nat.le_of_ble_eq_true rfl⟩ (Nat.le_of_ble_eq_true rfl) dL_law_1004 (fun v S' V1 h9 => ?_)
  obtain ⟨k, rfl, hk3, rfl, hm⟩ := h9
  refine G_istore_5 C K rfl (by decide) dL_law_1007 ?_
  refine G_aload_2 C K dL_law_1009 ?_
  refine G_tload_0 C dL_law_1010 ?_
  refine G_iload_4 C K dL_law_1011 ?_
  refine G_iconst C K (v := 1) dL_law_1013 (by decide) ?_
  refine G_iadd C K dL_law_1014 ?_
  refine G_sld C hX hb ho (n := 5 * j + 1) (nI_1 _) (by omega) hL dL_law_1015 ?_
  refine G_tload_0 C dL_law_1016 ?_
  refine G_iload_4 C K dL_law_1017 ?_
  refine G_iconst C K (v := 2) dL_law_1019 (by decide) ?_
  refine G_iadd C K dL_law_1020 ?_
  refine G_sld C hX hb ho (n := 5 * j + 2) (nI_add (5 * j) 2) (by omega) hL dL_law_1021 ?_
  refine G_tload_0 C dL_law_1022 ?_
  refine G_iload_4 C K dL_law_1023 ?_
  refine G_iconst C K (v := 3) dL_law_1025 (by decide) ?_
  refine G_iadd C K dL_law_1026 ?_
  refine G_sld C hX hb ho (n := 5 * j + 3) (nI_add (5 * j) 3) (by omega) hL dL_law_1027 ?_
  refine G_callV (T' := mX12_letter) (As := [_, _, _]) (ci := 12) C K ho hls okX12_letter mlL_138 rfl (by decide) sh_504 hm rfl ⟨Nat.le_of_ble_eq_true rfl, Nat.le_of_ble_eq_true rfl⟩ (Nat.le_of_ble_eq_true rfl) dL_law_1028 (fun v S' V2 h8 => ?_) (fun E S' V' h => (show False from h).elim)
  obtain ⟨y, rfl, rfl, m0, m1, m2, hI2⟩ := h8
  refine G_istore_6 C K rfl (by decide) dL_law_1031 ?_
  refine G_aload_2 C K dL_law_1033 ?_
  refine G_callV_e (T' := mX12_thrown) (As := []) (ci := 12) C K ho hls okX12_thrown mlL_90 rfl (by decide) sh_504 (ct_mthrown m0) rfl ⟨Nat.le_of_ble_eq_true rfl, Nat.le_of_ble_eq_true rfl⟩ (Nat.le_of_ble_eq_true rfl) dL_law_1034 ?_
  refine G_iload_5 C K dL_law_1037 ?_
  refine G_icmp_eq C K 1044 dL_law_1039 (by decide) (fun c1039 => ?_) (fun c1039 => absurd rfl c1039)
  refine G_iload_5 C K dL_law_1044 ?_
  refine G_if_ne C K 1061 dL_law_1046 (by decide) (fun c1046 => ?_) (fun c1046 => ?_)
  · refine G_goto C K 1445 dL_law_1061 (by decide) ?_
    refine G_drop_6 C K ?_
    refine G_drop_5 C K ?_
    exact kk _ hI2
  · have hk0 : k = 0 := by
      rcases Nat.eq_zero_or_pos k with z | z
      · exact z
      · exact absurd c1046 (nI_ne0 z (by omega))
    refine G_aload_3 C K dL_law_1049 ?_
    refine G_iconst C K (v := 0) dL_law_1050 (by decide) ?_
    refine G_lald C K dL_law_1051 sh_539 (show vp_in (nI 0) 1 from vp_in_nI (by decide) (by decide)) rfl ((congrFun m2 0).trans (m1 hk0)) ?_
    refine G_iload_6 C K dL_law_1052 ?_
    refine G_i2l C K dL_law_1054 ?_
    refine G_lcmp C K dL_law_1055 ?_
    refine G_if_eq C K 1061 dL_law_1056 (by decide) (fun c1056 => ?_) (fun c1056 => absurd (lg_same _) c1056)
    refine G_goto C K 1445 dL_law_1061 (by decide) ?_
    refine G_drop_6 C K ?_
    refine G_drop_5 C K ?_
    exact kk _ hI2
set_option maxHeartbeats 4000000 in
theorem lc_sign (C : a_CG p s m args meth c mLaw) (K : a_K o x0 cA D s) (hN : aNcs s) (ho : o ≤ s.heap.size) (hls : l.stackTraces = false) (hX : va_X (x0 2) L xs s s.heap) (hb : x0 2 < o) (hL : L ≤ 2560) (hI : LInv V) (hj : 5 * j + 5 ≤ L) (kk : ∀ V', LInv V' → RG p l e room_1 s m args below meth c D cA o x0 mLaw Z kc ks 1445 [some (.retAddr 2), some (.ref 0), some (.ref 504), some (.ref 539), some (.int (nI (5 * j))), none, none] [] Sh V') : RG p l e room_1 s m args below meth c D cA o x0 mLaw Z (kc + 3) (ks + 18) 1064 [some (.retAddr 2), some (.ref 0), some (.ref 504), some (.ref 539), some (.int (nI (5 * j))), none, none] [] Sh V := by
  refine G_less (kc' := kc + 3) (ks' := ks + 18) (by omega) (by omega) ?_
  refine G_aload_1 C K dL_law_1064 ?_
  refine G_tload_0 C dL_law_1065 ?_
  refine G_iload_4 C K dL_law_1066 ?_
  refine G_iconst C K (v := 1) dL_law_1068 (by decide) ?_
  refine G_iadd C K dL_law_1069 ?_
  refine G_sld C hX hb ho (n := 5 * j + 1) (nI_1 _) (by omega) hL dL_law_1070 ?_
  refine G_tload_0 C dL_law_1071 ?_
  refine G_iload_4 C K dL_law_1072 ?_
  refine G_iconst C K (v := 2) dL_law_1074 (by decide) ?_
  refine G_iadd C K dL_law_1075 ?_
  refine G_sld C hX hb ho (n := 5 * j + 2) (nI_add (5 * j) 2) (by omega) hL dL_law_1076 ?_
  refine G_tload_0 C dL_law_1077 ?_
  refine G_iload_4 C K dL_law_1078 ?_
  refine G_iconst C K (v := 3) dL_law_1080 (by decide) ?_
  refine G_iadd C K dL_law_1081 ?_
  refine G_sld C hX hb ho (n := 5 * j + 3) (nI_add (5 * j) 3) (by omega) hL dL_law_1082 ?_
  refine G_aload_3 C K dL_law_1083 ?_
  refine G_callSX (T' := mL_sign) (hh := hL_sign) (As := [_, _, _, _, _]) C K hN ho hls ddL_sign wi_L chL_sign stL_sign mlL_139 (op_sign hI (xs (5 * j + 1)) (xs (5 * j + 2)) (xs (5 * j + 3))) rfl ⟨Nat.le_of_ble_eq_true rfl, Nat.le_of_ble_eq_true rfl⟩ (Nat.le_of_ble_eq_true rfl) dL_law_1084 (fun v S' V1 h9 => ?_)
  obtain ⟨k, rfl, hk3, rfl, hm⟩ := h9
  refine G_istore_5 C K rfl (by decide) dL_law_1087 ?_
  refine G_aload_2 C K dL_law_1089 ?_
  refine G_tload_0 C dL_law_1090 ?_
  refine G_iload_4 C K dL_law_1091 ?_
  refine G_iconst C K (v := 1) dL_law_1093 (by decide) ?_
  refine G_iadd C K dL_law_1094 ?_
  refine G_sld C hX hb ho (n := 5 * j + 1) (nI_1 _) (by omega) hL dL_law_1095 ?_
  refine G_tload_0 C dL_law_1096 ?_
  refine G_iload_4 C K dL_law_1097 ?_
  refine G_iconst C K (v := 2) dL_law_1099 (by decide) ?_
  refine G_iadd C K dL_law_1100 ?_
  refine G_sld C hX hb ho (n := 5 * j + 2) (nI_add (5 * j) 2) (by omega) hL dL_law_1101 ?_
  refine G_tload_0 C dL_law_1102 ?_
  refine G_iload_4 C K dL_law_1103 ?_
  refine G_iconst C K (v := 3) dL_law_1105 (by decide) ?_
  refine G_iadd C K dL_law_1106 ?_
  refine G_sld C hX hb ho (n := 5 * j + 3) (nI_add (5 * j) 3) (by omega) hL dL_law_1107 ?_
  refine G_callV (T' := mX12_sign) (As := [_, _, _]) (ci := 12) C K ho hls okX12_sign mlL_141 rfl (by decide) sh_504 hm rfl ⟨Nat.le_of_ble_eq_true rfl, Nat.le_of_ble_eq_true rfl⟩ (Nat.le_of_ble_eq_true rfl) dL_law_1108 (fun v S' V2 h8 => ?_) (fun E S' V' h => (show False from h).elim)
  obtain ⟨y, rfl, rfl, m0, m1, m2, hI2⟩ := h8
  refine G_istore_6 C K rfl (by decide) dL_law_1111 ?_
  refine G_aload_2 C K dL_law_1113 ?_
  refine G_callV_e (T' := mX12_thrown) (As := []) (ci := 12) C K ho hls okX12_thrown mlL_90 rfl (by decide) sh_504 (ct_mthrown m0) rfl ⟨Nat.le_of_ble_eq_true rfl, Nat.le_of_ble_eq_true rfl⟩ (Nat.le_of_ble_eq_true rfl) dL_law_1114 ?_
  refine G_iload_5 C K dL_law_1117 ?_
  refine G_icmp_eq C K 1124 dL_law_1119 (by decide) (fun c1119 => ?_) (fun c1119 => absurd rfl c1119)
  refine G_iload_5 C K dL_law_1124 ?_
  refine G_if_ne C K 1141 dL_law_1126 (by decide) (fun c1126 => ?_) (fun c1126 => ?_)
  · refine G_goto C K 1445 dL_law_1141 (by decide) ?_
    refine G_drop_6 C K ?_
    refine G_drop_5 C K ?_
    exact kk _ hI2
  · have hk0 : k = 0 := by
      rcases Nat.eq_zero_or_pos k with z | z
      · exact z
      · exact absurd c1126 (nI_ne0 z (by omega))
    refine G_aload_3 C K dL_law_1129 ?_
    refine G_iconst C K (v := 0) dL_law_1130 (by decide) ?_
    refine G_lald C K dL_law_1131 sh_539 (show vp_in (nI 0) 1 from vp_in_nI (by decide) (by decide)) rfl ((congrFun m2 0).trans (m1 hk0)) ?_
    refine G_iload_6 C K dL_law_1132 ?_
    refine G_i2l C K dL_law_1134 ?_
    refine G_lcmp C K dL_law_1135 ?_
    refine G_if_eq C K 1141 dL_law_1136 (by decide) (fun c1136 => ?_) (fun c1136 => absurd (lg_same _) c1136)
    refine G_goto C K 1445 dL_law_1141 (by decide) ?_
    refine G_drop_6 C K ?_
    refine G_drop_5 C K ?_
    exact kk _ hI2
set_option maxHeartbeats 4000000 in
theorem lc_anew (C : a_CG p s m args meth c mLaw) (K : a_K o x0 cA D s) (hN : aNcs s) (ho : o ≤ s.heap.size) (hls : l.stackTraces = false) (hX : va_X (x0 2) L xs s s.heap) (hb : x0 2 < o) (hL : L ≤ 2560) (hI : LInv V) (hj : 5 * j + 5 ≤ L) (kk : ∀ V', LInv V' → RG p l e room_1 s m args below meth c D cA o x0 mLaw Z kc ks 1445 [some (.retAddr 2), some (.ref 0), some (.ref 504), some (.ref 539), some (.int (nI (5 * j))), none, none] [] Sh V') : RG p l e room_1 s m args below meth c D cA o x0 mLaw Z (kc + 3) (ks + 18) 1144 [some (.retAddr 2), some (.ref 0), some (.ref 504), some (.ref 539), some (.int (nI (5 * j))), none, none] [] Sh V := by
  refine G_less (kc' := kc + 2) (ks' := ks + 12) (by omega) (by omega) ?_
  refine G_aload_1 C K dL_law_1144 ?_
  refine G_tload_0 C dL_law_1145 ?_
  refine G_iload_4 C K dL_law_1146 ?_
  refine G_iconst C K (v := 1) dL_law_1148 (by decide) ?_
  refine G_iadd C K dL_law_1149 ?_
  refine G_sld C hX hb ho (n := 5 * j + 1) (nI_1 _) (by omega) hL dL_law_1150 ?_
  refine G_tload_0 C dL_law_1151 ?_
  refine G_iload_4 C K dL_law_1152 ?_
  refine G_iconst C K (v := 2) dL_law_1154 (by decide) ?_
  refine G_iadd C K dL_law_1155 ?_
  refine G_sld C hX hb ho (n := 5 * j + 2) (nI_add (5 * j) 2) (by omega) hL dL_law_1156 ?_
  refine G_aload_3 C K dL_law_1157 ?_
  refine G_callSX (T' := mL_anew) (hh := hL_anew) (As := [_, _, _, _]) C K hN ho hls ddL_anew wi_L chL_anew stL_anew mlL_142 (op_anew hI (xs (5 * j + 1)) (xs (5 * j + 2))) rfl ⟨Nat.le_of_ble_eq_true rfl, Nat.le_of_ble_eq_true rfl⟩ (Nat.le_of_ble_eq_true rfl) dL_law_1158 (fun v S' V1 h9 => ?_)
  obtain ⟨k, rfl, hk3, rfl, hm⟩ := h9
  refine G_istore_5 C K rfl (by decide) dL_law_1161 ?_
  refine G_aload_2 C K dL_law_1163 ?_
  refine G_tload_0 C dL_law_1164 ?_
  refine G_iload_4 C K dL_law_1165 ?_
  refine G_iconst C K (v := 1) dL_law_1167 (by decide) ?_
  refine G_iadd C K dL_law_1168 ?_
  refine G_sld C hX hb ho (n := 5 * j + 1) (nI_1 _) (by omega) hL dL_law_1169 ?_
  refine G_tload_0 C dL_law_1170 ?_
  refine G_iload_4 C K dL_law_1171 ?_
  refine G_iconst C K (v := 2) dL_law_1173 (by decide) ?_
  refine G_iadd C K dL_law_1174 ?_
  refine G_sld C hX hb ho (n := 5 * j + 2) (nI_add (5 * j) 2) (by omega) hL dL_law_1175 ?_
  refine G_callV (T' := mX12_anew) (As := [_, _]) (ci := 12) C K ho hls okX12_anew mlL_144 rfl (by decide) sh_504 hm rfl ⟨Nat.le_of_ble_eq_true rfl, Nat.le_of_ble_eq_true rfl⟩ (Nat.le_of_ble_eq_true rfl) dL_law_1176 (fun v S' V2 h8 => ?_) (fun E S' V' h => (show False from h).elim)
  obtain ⟨y, rfl, rfl, m0, m1, m2, hI2⟩ := h8
  refine G_istore_6 C K rfl (by decide) dL_law_1179 ?_
  refine G_aload_2 C K dL_law_1181 ?_
  refine G_callV_e (T' := mX12_thrown) (As := []) (ci := 12) C K ho hls okX12_thrown mlL_90 rfl (by decide) sh_504 (ct_mthrown m0) rfl ⟨Nat.le_of_ble_eq_true rfl, Nat.le_of_ble_eq_true rfl⟩ (Nat.le_of_ble_eq_true rfl) dL_law_1182 ?_
  refine G_iload_5 C K dL_law_1185 ?_
  refine G_icmp_eq C K 1192 dL_law_1187 (by decide) (fun c1187 => ?_) (fun c1187 => absurd rfl c1187)
  refine G_iload_5 C K dL_law_1192 ?_
  refine G_if_ne C K 1209 dL_law_1194 (by decide) (fun c1194 => ?_) (fun c1194 => ?_)
  · refine G_goto C K 1445 dL_law_1209 (by decide) ?_
    refine G_drop_6 C K ?_
    refine G_drop_5 C K ?_
    exact kk _ hI2
  · have hk0 : k = 0 := by
      rcases Nat.eq_zero_or_pos k with z | z
      · exact z
      · exact absurd c1194 (nI_ne0 z (by omega))
    refine G_aload_3 C K dL_law_1197 ?_
    refine G_iconst C K (v := 0) dL_law_1198 (by decide) ?_
    refine G_lald C K dL_law_1199 sh_539 (show vp_in (nI 0) 1 from vp_in_nI (by decide) (by decide)) rfl ((congrFun m2 0).trans (m1 hk0)) ?_
    refine G_iload_6 C K dL_law_1200 ?_
    refine G_i2l C K dL_law_1202 ?_
    refine G_lcmp C K dL_law_1203 ?_
    refine G_if_eq C K 1209 dL_law_1204 (by decide) (fun c1204 => ?_) (fun c1204 => absurd (lg_same _) c1204)
    refine G_goto C K 1445 dL_law_1209 (by decide) ?_
    refine G_drop_6 C K ?_
    refine G_drop_5 C K ?_
    exact kk _ hI2
set_option maxHeartbeats 4000000 in
theorem lc_trouble (C : a_CG p s m args meth c mLaw) (K : a_K o x0 cA D s) (hN : aNcs s) (ho : o ≤ s.heap.size) (hls : l.stackTraces = false) (hX : va_X (x0 2) L xs s s.heap) (hb : x0 2 < o) (hL : L ≤ 2560) (hI : LInv V) (hj : 5 * j + 5 ≤ L) (kk : ∀ V', LInv V' → RG p l e room_1 s m args below meth c D cA o x0 mLaw Z kc ks 1445 [some (.retAddr 2), some (.ref 0), some (.ref 504), some (.ref 539), some (.int (nI (5 * j))), none, none] [] Sh V') : RG p l e room_1 s m args below meth c D cA o x0 mLaw Z (kc + 3) (ks + 18) 1212 [some (.retAddr 2), some (.ref 0), some (.ref 504), some (.ref 539), some (.int (nI (5 * j))), none, none] [] Sh V := by
  refine G_less (kc' := kc + 3) (ks' := ks + 18) (by omega) (by omega) ?_
  refine G_aload_1 C K dL_law_1212 ?_
  refine G_tload_0 C dL_law_1213 ?_
  refine G_iload_4 C K dL_law_1214 ?_
  refine G_iconst C K (v := 1) dL_law_1216 (by decide) ?_
  refine G_iadd C K dL_law_1217 ?_
  refine G_sld C hX hb ho (n := 5 * j + 1) (nI_1 _) (by omega) hL dL_law_1218 ?_
  refine G_tload_0 C dL_law_1219 ?_
  refine G_iload_4 C K dL_law_1220 ?_
  refine G_iconst C K (v := 2) dL_law_1222 (by decide) ?_
  refine G_iadd C K dL_law_1223 ?_
  refine G_sld C hX hb ho (n := 5 * j + 2) (nI_add (5 * j) 2) (by omega) hL dL_law_1224 ?_
  refine G_tload_0 C dL_law_1225 ?_
  refine G_iload_4 C K dL_law_1226 ?_
  refine G_iconst C K (v := 3) dL_law_1228 (by decide) ?_
  refine G_iadd C K dL_law_1229 ?_
  refine G_sld C hX hb ho (n := 5 * j + 3) (nI_add (5 * j) 3) (by omega) hL dL_law_1230 ?_
  refine G_tload_0 C dL_law_1231 ?_
  refine G_iload_4 C K dL_law_1232 ?_
  refine G_iconst C K (v := 4) dL_law_1234 (by decide) ?_
  refine G_iadd C K dL_law_1235 ?_
  refine G_sld C hX hb ho (n := 5 * j + 4) (nI_add (5 * j) 4) (by omega) hL dL_law_1236 ?_
  refine G_if_eq C K 1244 dL_law_1237 (by decide) (fun c1237 => ?_) (fun c1237 => ?_)
  · refine G_iconst C K (v := 0) dL_law_1244 (by decide) ?_
    refine G_aload_3 C K dL_law_1245 ?_
    refine G_callSX (T' := mL_trouble) (hh := hL_trouble) (As := [_, _, _, _, _, _]) C K hN ho hls ddL_trouble wi_L chL_trouble stL_trouble mlL_145 (op_trouble hI (xs (5 * j + 1)) (xs (5 * j + 2)) (xs (5 * j + 3)) 0) rfl ⟨Nat.le_of_ble_eq_true rfl, Nat.le_of_ble_eq_true rfl⟩ (Nat.le_of_ble_eq_true rfl) dL_law_1246 (fun v S' V1 h9 => ?_)
    obtain ⟨k, rfl, hk3, rfl, hm⟩ := h9
    refine G_istore_5 C K rfl (by decide) dL_law_1249 ?_
    refine G_aload_2 C K dL_law_1251 ?_
    refine G_tload_0 C dL_law_1252 ?_
    refine G_iload_4 C K dL_law_1253 ?_
    refine G_iconst C K (v := 1) dL_law_1255 (by decide) ?_
    refine G_iadd C K dL_law_1256 ?_
    refine G_sld C hX hb ho (n := 5 * j + 1) (nI_1 _) (by omega) hL dL_law_1257 ?_
    refine G_tload_0 C dL_law_1258 ?_
    refine G_iload_4 C K dL_law_1259 ?_
    refine G_iconst C K (v := 2) dL_law_1261 (by decide) ?_
    refine G_iadd C K dL_law_1262 ?_
    refine G_sld C hX hb ho (n := 5 * j + 2) (nI_add (5 * j) 2) (by omega) hL dL_law_1263 ?_
    refine G_tload_0 C dL_law_1264 ?_
    refine G_iload_4 C K dL_law_1265 ?_
    refine G_iconst C K (v := 3) dL_law_1267 (by decide) ?_
    refine G_iadd C K dL_law_1268 ?_
    refine G_sld C hX hb ho (n := 5 * j + 3) (nI_add (5 * j) 3) (by omega) hL dL_law_1269 ?_
    refine G_tload_0 C dL_law_1270 ?_
    refine G_iload_4 C K dL_law_1271 ?_
    refine G_iconst C K (v := 4) dL_law_1273 (by decide) ?_
    refine G_iadd C K dL_law_1274 ?_
    refine G_sld C hX hb ho (n := 5 * j + 4) (nI_add (5 * j) 4) (by omega) hL dL_law_1275 ?_
    refine G_if_eq C K 1283 dL_law_1276 (by decide) (fun c1276 => ?_) (fun c1276 => absurd c1237 c1276)
    refine G_iconst C K (v := 0) dL_law_1283 (by decide) ?_
    refine G_callV (T' := mX12_trouble) (As := [_, _, _, _]) (ci := 12) C K ho hls okX12_trouble mlL_148 rfl (by decide) sh_504 hm rfl ⟨Nat.le_of_ble_eq_true rfl, Nat.le_of_ble_eq_true rfl⟩ (Nat.le_of_ble_eq_true rfl) dL_law_1284 (fun v S' V2 h8 => ?_) (fun E S' V' h => (show False from h).elim)
    obtain ⟨y, rfl, rfl, m0, m1, m2, hI2⟩ := h8
    refine G_istore_6 C K rfl (by decide) dL_law_1287 ?_
    refine G_aload_2 C K dL_law_1289 ?_
    refine G_callV_e (T' := mX12_thrown) (As := []) (ci := 12) C K ho hls okX12_thrown mlL_90 rfl (by decide) sh_504 (ct_mthrown m0) rfl ⟨Nat.le_of_ble_eq_true rfl, Nat.le_of_ble_eq_true rfl⟩ (Nat.le_of_ble_eq_true rfl) dL_law_1290 ?_
    refine G_iload_5 C K dL_law_1293 ?_
    refine G_icmp_eq C K 1300 dL_law_1295 (by decide) (fun c1295 => ?_) (fun c1295 => absurd rfl c1295)
    refine G_iload_5 C K dL_law_1300 ?_
    refine G_if_ne C K 1317 dL_law_1302 (by decide) (fun c1302 => ?_) (fun c1302 => ?_)
    · refine G_goto C K 1445 dL_law_1317 (by decide) ?_
      refine G_drop_6 C K ?_
      refine G_drop_5 C K ?_
      exact kk _ hI2
    · have hk0 : k = 0 := by
        rcases Nat.eq_zero_or_pos k with z | z
        · exact z
        · exact absurd c1302 (nI_ne0 z (by omega))
      refine G_aload_3 C K dL_law_1305 ?_
      refine G_iconst C K (v := 0) dL_law_1306 (by decide) ?_
      refine G_lald C K dL_law_1307 sh_539 (show vp_in (nI 0) 1 from vp_in_nI (by decide) (by decide)) rfl ((congrFun m2 0).trans (m1 hk0)) ?_
      refine G_iload_6 C K dL_law_1308 ?_
      refine G_i2l C K dL_law_1310 ?_
      refine G_lcmp C K dL_law_1311 ?_
      refine G_if_eq C K 1317 dL_law_1312 (by decide) (fun c1312 => ?_) (fun c1312 => absurd (lg_same _) c1312)
      refine G_goto C K 1445 dL_law_1317 (by decide) ?_
      refine G_drop_6 C K ?_
      refine G_drop_5 C K ?_
      exact kk _ hI2
  · refine G_iconst C K (v := 1) dL_law_1240 (by decide) ?_
    refine G_goto C K 1245 dL_law_1241 (by decide) ?_
    refine G_aload_3 C K dL_law_1245 ?_
    refine G_callSX (T' := mL_trouble) (hh := hL_trouble) (As := [_, _, _, _, _, _]) C K hN ho hls ddL_trouble wi_L chL_trouble stL_trouble mlL_145 (op_trouble hI (xs (5 * j + 1)) (xs (5 * j + 2)) (xs (5 * j + 3)) 1) rfl ⟨Nat.le_of_ble_eq_true rfl, Nat.le_of_ble_eq_true rfl⟩ (Nat.le_of_ble_eq_true rfl) dL_law_1246 (fun v S' V1 h9 => ?_)
    obtain ⟨k, rfl, hk3, rfl, hm⟩ := h9
    refine G_istore_5 C K rfl (by decide) dL_law_1249 ?_
    refine G_aload_2 C K dL_law_1251 ?_
    refine G_tload_0 C dL_law_1252 ?_
    refine G_iload_4 C K dL_law_1253 ?_
    refine G_iconst C K (v := 1) dL_law_1255 (by decide) ?_
    refine G_iadd C K dL_law_1256 ?_
    refine G_sld C hX hb ho (n := 5 * j + 1) (nI_1 _) (by omega) hL dL_law_1257 ?_
    refine G_tload_0 C dL_law_1258 ?_
    refine G_iload_4 C K dL_law_1259 ?_
    refine G_iconst C K (v := 2) dL_law_1261 (by decide) ?_
    refine G_iadd C K dL_law_1262 ?_
    refine G_sld C hX hb ho (n := 5 * j + 2) (nI_add (5 * j) 2) (by omega) hL dL_law_1263 ?_
    refine G_tload_0 C dL_law_1264 ?_
    refine G_iload_4 C K dL_law_1265 ?_
    refine G_iconst C K (v := 3) dL_law_1267 (by decide) ?_
    refine G_iadd C K dL_law_1268 ?_
    refine G_sld C hX hb ho (n := 5 * j + 3) (nI_add (5 * j) 3) (by omega) hL dL_law_1269 ?_
    refine G_tload_0 C dL_law_1270 ?_
    refine G_iload_4 C K dL_law_1271 ?_
    refine G_iconst C K (v := 4) dL_law_1273 (by decide) ?_
    refine G_iadd C K dL_law_1274 ?_
    refine G_sld C hX hb ho (n := 5 * j + 4) (nI_add (5 * j) 4) (by omega) hL dL_law_1275 ?_
    refine G_if_eq C K 1283 dL_law_1276 (by decide) (fun c1276 => absurd c1276 c1237) (fun c1276 => ?_)
    refine G_iconst C K (v := 1) dL_law_1279 (by decide) ?_
    refine G_goto C K 1284 dL_law_1280 (by decide) ?_
    refine G_callV (T' := mX12_trouble) (As := [_, _, _, _]) (ci := 12) C K ho hls okX12_trouble mlL_148 rfl (by decide) sh_504 hm rfl ⟨Nat.le_of_ble_eq_true rfl, Nat.le_of_ble_eq_true rfl⟩ (Nat.le_of_ble_eq_true rfl) dL_law_1284 (fun v S' V2 h8 => ?_) (fun E S' V' h => (show False from h).elim)
    obtain ⟨y, rfl, rfl, m0, m1, m2, hI2⟩ := h8
    refine G_istore_6 C K rfl (by decide) dL_law_1287 ?_
    refine G_aload_2 C K dL_law_1289 ?_
    refine G_callV_e (T' := mX12_thrown) (As := []) (ci := 12) C K ho hls okX12_thrown mlL_90 rfl (by decide) sh_504 (ct_mthrown m0) rfl ⟨Nat.le_of_ble_eq_true rfl, Nat.le_of_ble_eq_true rfl⟩ (Nat.le_of_ble_eq_true rfl) dL_law_1290 ?_
    refine G_iload_5 C K dL_law_1293 ?_
    refine G_icmp_eq C K 1300 dL_law_1295 (by decide) (fun c1295 => ?_) (fun c1295 => absurd rfl c1295)
    refine G_iload_5 C K dL_law_1300 ?_
    refine G_if_ne C K 1317 dL_law_1302 (by decide) (fun c1302 => ?_) (fun c1302 => ?_)
    · refine G_goto C K 1445 dL_law_1317 (by decide) ?_
      refine G_drop_6 C K ?_
      refine G_drop_5 C K ?_
      exact kk _ hI2
    · have hk0 : k = 0 := by
        rcases Nat.eq_zero_or_pos k with z | z
        · exact z
        · exact absurd c1302 (nI_ne0 z (by omega))
      refine G_aload_3 C K dL_law_1305 ?_
      refine G_iconst C K (v := 0) dL_law_1306 (by decide) ?_
      refine G_lald C K dL_law_1307 sh_539 (show vp_in (nI 0) 1 from vp_in_nI (by decide) (by decide)) rfl ((congrFun m2 0).trans (m1 hk0)) ?_
      refine G_iload_6 C K dL_law_1308 ?_
      refine G_i2l C K dL_law_1310 ?_
      refine G_lcmp C K dL_law_1311 ?_
      refine G_if_eq C K 1317 dL_law_1312 (by decide) (fun c1312 => ?_) (fun c1312 => absurd (lg_same _) c1312)
      refine G_goto C K 1445 dL_law_1317 (by decide) ?_
      refine G_drop_6 C K ?_
      refine G_drop_5 C K ?_
      exact kk _ hI2
set_option maxHeartbeats 4000000 in
theorem lc_post (C : a_CG p s m args meth c mLaw) (K : a_K o x0 cA D s) (hN : aNcs s) (ho : o ≤ s.heap.size) (hls : l.stackTraces = false) (hX : va_X (x0 2) L xs s s.heap) (hb : x0 2 < o) (hL : L ≤ 2560) (hI : LInv V) (hj : 5 * j + 5 ≤ L) (kk : ∀ V', LInv V' → RG p l e room_1 s m args below meth c D cA o x0 mLaw Z kc ks 1445 [some (.retAddr 2), some (.ref 0), some (.ref 504), some (.ref 539), some (.int (nI (5 * j))), none, none] [] Sh V') : RG p l e room_1 s m args below meth c D cA o x0 mLaw Z (kc + 3) (ks + 18) 1320 [some (.retAddr 2), some (.ref 0), some (.ref 504), some (.ref 539), some (.int (nI (5 * j))), none, none] [] Sh V := by
  refine G_less (kc' := kc + 2) (ks' := ks + 12) (by omega) (by omega) ?_
  refine G_aload_1 C K dL_law_1320 ?_
  refine G_tload_0 C dL_law_1321 ?_
  refine G_iload_4 C K dL_law_1322 ?_
  refine G_iconst C K (v := 1) dL_law_1324 (by decide) ?_
  refine G_iadd C K dL_law_1325 ?_
  refine G_sld C hX hb ho (n := 5 * j + 1) (nI_1 _) (by omega) hL dL_law_1326 ?_
  refine G_aload_3 C K dL_law_1327 ?_
  refine G_callSX (T' := mL_post) (hh := hL_post) (As := [_, _, _]) C K hN ho hls ddL_post wi_L chL_post stL_post mlL_149 (op_post hI (xs (5 * j + 1))) rfl ⟨Nat.le_of_ble_eq_true rfl, Nat.le_of_ble_eq_true rfl⟩ (Nat.le_of_ble_eq_true rfl) dL_law_1328 (fun v S' V1 h9 => ?_)
  obtain ⟨k, rfl, hk3, rfl, hm⟩ := h9
  refine G_istore_5 C K rfl (by decide) dL_law_1331 ?_
  refine G_aload_2 C K dL_law_1333 ?_
  refine G_tload_0 C dL_law_1334 ?_
  refine G_iload_4 C K dL_law_1335 ?_
  refine G_iconst C K (v := 1) dL_law_1337 (by decide) ?_
  refine G_iadd C K dL_law_1338 ?_
  refine G_sld C hX hb ho (n := 5 * j + 1) (nI_1 _) (by omega) hL dL_law_1339 ?_
  refine G_callV (T' := mX12_post) (As := [_]) (ci := 12) C K ho hls okX12_post mlL_151 rfl (by decide) sh_504 hm rfl ⟨Nat.le_of_ble_eq_true rfl, Nat.le_of_ble_eq_true rfl⟩ (Nat.le_of_ble_eq_true rfl) dL_law_1340 (fun v S' V2 h8 => ?_) (fun E S' V' h => (show False from h).elim)
  obtain ⟨y, rfl, rfl, m0, m1, m2, hI2⟩ := h8
  refine G_istore_6 C K rfl (by decide) dL_law_1343 ?_
  refine G_aload_2 C K dL_law_1345 ?_
  refine G_callV_e (T' := mX12_thrown) (As := []) (ci := 12) C K ho hls okX12_thrown mlL_90 rfl (by decide) sh_504 (ct_mthrown m0) rfl ⟨Nat.le_of_ble_eq_true rfl, Nat.le_of_ble_eq_true rfl⟩ (Nat.le_of_ble_eq_true rfl) dL_law_1346 ?_
  refine G_iload_5 C K dL_law_1349 ?_
  refine G_icmp_eq C K 1356 dL_law_1351 (by decide) (fun c1351 => ?_) (fun c1351 => absurd rfl c1351)
  refine G_iload_5 C K dL_law_1356 ?_
  refine G_if_ne C K 1373 dL_law_1358 (by decide) (fun c1358 => ?_) (fun c1358 => ?_)
  · refine G_goto C K 1445 dL_law_1373 (by decide) ?_
    refine G_drop_6 C K ?_
    refine G_drop_5 C K ?_
    exact kk _ hI2
  · have hk0 : k = 0 := by
      rcases Nat.eq_zero_or_pos k with z | z
      · exact z
      · exact absurd c1358 (nI_ne0 z (by omega))
    refine G_aload_3 C K dL_law_1361 ?_
    refine G_iconst C K (v := 0) dL_law_1362 (by decide) ?_
    refine G_lald C K dL_law_1363 sh_539 (show vp_in (nI 0) 1 from vp_in_nI (by decide) (by decide)) rfl ((congrFun m2 0).trans (m1 hk0)) ?_
    refine G_iload_6 C K dL_law_1364 ?_
    refine G_i2l C K dL_law_1366 ?_
    refine G_lcmp C K dL_law_1367 ?_
    refine G_if_eq C K 1373 dL_law_1368 (by decide) (fun c1368 => ?_) (fun c1368 => absurd (lg_same _) c1368)
    refine G_goto C K 1445 dL_law_1373 (by decide) ?_
    refine G_drop_6 C K ?_
    refine G_drop_5 C K ?_
    exact kk _ hI2
set_option maxHeartbeats 4000000 in
theorem lc_spent (C : a_CG p s m args meth c mLaw) (K : a_K o x0 cA D s) (hN : aNcs s) (ho : o ≤ s.heap.size) (hls : l.stackTraces = false) (hX : va_X (x0 2) L xs s s.heap) (hb : x0 2 < o) (hL : L ≤ 2560) (hI : LInv V) (hj : 5 * j + 5 ≤ L) (kk : ∀ V', LInv V' → RG p l e room_1 s m args below meth c D cA o x0 mLaw Z kc ks 1445 [some (.retAddr 2), some (.ref 0), some (.ref 504), some (.ref 539), some (.int (nI (5 * j))), none, none] [] Sh V') : RG p l e room_1 s m args below meth c D cA o x0 mLaw Z (kc + 3) (ks + 18) 1376 [some (.retAddr 2), some (.ref 0), some (.ref 504), some (.ref 539), some (.int (nI (5 * j))), none, none] [] Sh V := by
  have hI0 := hI
  obtain ⟨L0, T, to, ent, cnt, mt, po, b, st, pa, n, rt, rr, pd, kn, kl, hC, hM, hS⟩ := hI0
  obtain ⟨⟨a1, a2, a3, a4, a5, a6, a7⟩, ⟨b1, ⟨en, sp, b2⟩, b3, b4⟩, -⟩ := hC
  obtain ⟨-, ⟨mE, mM, mP⟩, ⟨mb, ms, mp⟩, -⟩ := hM
  refine G_less (kc' := kc) (ks' := ks) (by omega) (by omega) ?_
  refine G_aload_1 C K dL_law_1376 ?_
  refine G_callV_e (T' := mX11_spent) (As := []) (ci := 11) C K ho hls okX11_spent mlL_152 rfl (by decide) sh_0 (ct_spent a7) rfl ⟨Nat.le_of_ble_eq_true rfl, Nat.le_of_ble_eq_true rfl⟩ (Nat.le_of_ble_eq_true rfl) dL_law_1377 ?_
  refine G_aload_2 C K dL_law_1380 ?_
  refine G_callV_e (T' := mX12_spent) (As := []) (ci := 12) C K ho hls okX12_spent mlL_155 rfl (by decide) sh_504 (ct_mspent mp) rfl ⟨Nat.le_of_ble_eq_true rfl, Nat.le_of_ble_eq_true rfl⟩ (Nat.le_of_ble_eq_true rfl) dL_law_1381 ?_
  refine G_icmp_eq C K 1445 dL_law_1384 (by decide) (fun c1384 => ?_) (fun c1384 => absurd rfl c1384)
  exact kk V hI
set_option maxHeartbeats 4000000 in
theorem lc_reasons (C : a_CG p s m args meth c mLaw) (K : a_K o x0 cA D s) (hN : aNcs s) (ho : o ≤ s.heap.size) (hls : l.stackTraces = false) (hX : va_X (x0 2) L xs s s.heap) (hb : x0 2 < o) (hL : L ≤ 2560) (hI : LInv V) (hj : 5 * j + 5 ≤ L) (kk : ∀ V', LInv V' → RG p l e room_1 s m args below meth c D cA o x0 mLaw Z kc ks 1445 [some (.retAddr 2), some (.ref 0), some (.ref 504), some (.ref 539), some (.int (nI (5 * j))), none, none] [] Sh V') : RG p l e room_1 s m args below meth c D cA o x0 mLaw Z (kc + 3) (ks + 18) 1389 [some (.retAddr 2), some (.ref 0), some (.ref 504), some (.ref 539), some (.int (nI (5 * j))), none, none] [] Sh V := by
  refine G_less (kc' := kc + 1) (ks' := ks + 6) (by omega) (by omega) ?_
  refine G_aload_1 C K dL_law_1389 ?_
  refine G_tload_0 C dL_law_1390 ?_
  refine G_iload_4 C K dL_law_1391 ?_
  refine G_iconst C K (v := 1) dL_law_1393 (by decide) ?_
  refine G_iadd C K dL_law_1394 ?_
  refine G_sld C hX hb ho (n := 5 * j + 1) (nI_1 _) (by omega) hL dL_law_1395 ?_
  refine G_aload_3 C K dL_law_1396 ?_
  refine G_callSX (T' := mL_reasons) (hh := hL_reasons) (As := [_, _, _]) C K hN ho hls ddL_reasons wi_L chL_reasons stL_reasons mlL_156 (op_reasons hI (xs (5 * j + 1))) rfl ⟨Nat.le_of_ble_eq_true rfl, Nat.le_of_ble_eq_true rfl⟩ (Nat.le_of_ble_eq_true rfl) dL_law_1397 (fun v S' V1 h9 => ?_)
  obtain ⟨k, rfl, hk3, rfl, hm⟩ := h9
  refine G_istore_5 C K rfl (by decide) dL_law_1400 ?_
  refine G_aload_2 C K dL_law_1402 ?_
  refine G_tload_0 C dL_law_1403 ?_
  refine G_iload_4 C K dL_law_1404 ?_
  refine G_iconst C K (v := 1) dL_law_1406 (by decide) ?_
  refine G_iadd C K dL_law_1407 ?_
  refine G_sld C hX hb ho (n := 5 * j + 1) (nI_1 _) (by omega) hL dL_law_1408 ?_
  refine G_callV (T' := mX12_reasons) (As := [_]) (ci := 12) C K ho hls okX12_reasons mlL_158 rfl (by decide) sh_504 hm rfl ⟨Nat.le_of_ble_eq_true rfl, Nat.le_of_ble_eq_true rfl⟩ (Nat.le_of_ble_eq_true rfl) dL_law_1409 (fun v S' V2 h8 => ?_) (fun E S' V' h => (show False from h).elim)
  obtain ⟨y, rfl, rfl, m0, m1, m2, hI2⟩ := h8
  refine G_istore_6 C K rfl (by decide) dL_law_1412 ?_
  refine G_aload_2 C K dL_law_1414 ?_
  refine G_callV_e (T' := mX12_thrown) (As := []) (ci := 12) C K ho hls okX12_thrown mlL_90 rfl (by decide) sh_504 (ct_mthrown m0) rfl ⟨Nat.le_of_ble_eq_true rfl, Nat.le_of_ble_eq_true rfl⟩ (Nat.le_of_ble_eq_true rfl) dL_law_1415 ?_
  refine G_iload_5 C K dL_law_1418 ?_
  refine G_icmp_eq C K 1425 dL_law_1420 (by decide) (fun c1420 => ?_) (fun c1420 => absurd rfl c1420)
  refine G_iload_5 C K dL_law_1425 ?_
  refine G_if_ne C K 1442 dL_law_1427 (by decide) (fun c1427 => ?_) (fun c1427 => ?_)
  · refine G_goto C K 1445 dL_law_1442 (by decide) ?_
    refine G_drop_6 C K ?_
    refine G_drop_5 C K ?_
    exact kk _ hI2
  · have hk0 : k = 0 := by
      rcases Nat.eq_zero_or_pos k with z | z
      · exact z
      · exact absurd c1427 (nI_ne0 z (by omega))
    refine G_aload_3 C K dL_law_1430 ?_
    refine G_iconst C K (v := 0) dL_law_1431 (by decide) ?_
    refine G_lald C K dL_law_1432 sh_539 (show vp_in (nI 0) 1 from vp_in_nI (by decide) (by decide)) rfl ((congrFun m2 0).trans (m1 hk0)) ?_
    refine G_iload_6 C K dL_law_1433 ?_
    refine G_i2l C K dL_law_1435 ?_
    refine G_lcmp C K dL_law_1436 ?_
    refine G_if_eq C K 1442 dL_law_1437 (by decide) (fun c1437 => ?_) (fun c1437 => absurd (lg_same _) c1437)
    refine G_goto C K 1445 dL_law_1442 (by decide) ?_
    refine G_drop_6 C K ?_
    refine G_drop_5 C K ?_
    exact kk _ hI2
end LCASES
