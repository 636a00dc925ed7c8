/-- a relation of the two memories that every pair of calls keeps, with one answer -/
def sd_Sim (Rel : sd_Me → sd_Me → Prop) : Prop := ∀ μ ν : sd_Me, Rel μ ν →
  (∀ (a0 : Int64) (a1 : Int32), ∃ (r : Int32) (μ' ν' : sd_Me), fn_Desk_put_r0 a0 a1 μ = some (r, μ') ∧ fn_Model_put_r0 a0 a1 ν = some (r, ν') ∧ Rel μ' ν') ∧
  (∀ (a0 : Int32), ∃ (μ' ν' : sd_Me), fn_Desk_secret_r0 a0 μ = some μ' ∧ fn_Model_secret_r0 a0 ν = some ν' ∧ Rel μ' ν') ∧
  (∃ (r : Int32) (μ' ν' : sd_Me), fn_Desk_run_r0 μ = some (r, μ') ∧ fn_Model_run_r0 ν = some (r, ν') ∧ Rel μ' ν') ∧
  (∃ (r : Int32) (μ' ν' : sd_Me), fn_Desk_place_r0 μ = some (r, μ') ∧ fn_Model_place_r0 ν = some (r, ν') ∧ Rel μ' ν') ∧
  (∃ (r : Int32) (μ' ν' : sd_Me), fn_Desk_clear_r0 μ = some (r, μ') ∧ fn_Model_clear_r0 ν = some (r, ν') ∧ Rel μ' ν') ∧
  (∃ (r : Int32) (μ' ν' : sd_Me), fn_Desk_size_r0 μ = some (r, μ') ∧ fn_Model_size_r0 ν = some (r, ν') ∧ Rel μ' ν') ∧
  (∃ (r : Int32) (μ' ν' : sd_Me), fn_Desk_isTrue_r0 μ = some (r, μ') ∧ fn_Model_isTrue_r0 ν = some (r, ν') ∧ Rel μ' ν') ∧
  (∀ (a0 : Int32), ∃ (r : Int32) (μ' ν' : sd_Me), fn_Desk_bytes_r0 a0 μ = some (r, μ') ∧ fn_Model_bytes_r0 a0 ν = some (r, ν') ∧ Rel μ' ν') ∧
  (∀ (a0 : Int32) (a1 : Int32), ∃ (r : Int32) (μ' ν' : sd_Me), fn_Desk_byteOf_r0 a0 a1 μ = some (r, μ') ∧ fn_Model_byteOf_r0 a0 a1 ν = some (r, ν') ∧ Rel μ' ν') ∧
  (∀ (a0 : Int32), ∃ (r : Int32) (μ' ν' : sd_Me), fn_Desk_count_r0 a0 μ = some (r, μ') ∧ fn_Model_count_r0 a0 ν = some (r, ν') ∧ Rel μ' ν')
theorem d_Law_law_0 : decode code 0 = .ok (.new 7, 3) := by decide +kernel
theorem d_Law_law_3 : decode code 3 = .ok (.dup, 1) := by decide +kernel
theorem d_Law_law_4 : decode code 4 = .ok (.invokespecial 9, 3) := by decide +kernel
theorem d_Law_law_7 : decode code 7 = .ok (.astore_n 1, 1) := by decide +kernel
theorem d_Law_law_8 : decode code 8 = .ok (.new 10, 3) := by decide +kernel
theorem d_Law_law_11 : decode code 11 = .ok (.dup, 1) := by decide +kernel
theorem d_Law_law_12 : decode code 12 = .ok (.invokespecial 12, 3) := by decide +kernel
theorem d_Law_law_15 : decode code 15 = .ok (.astore_n 2, 1) := by decide +kernel
theorem d_Law_law_16 : decode code 16 = .ok (.iconst 0, 1) := by decide +kernel
theorem d_Law_law_17 : decode code 17 = .ok (.istore_n 3, 1) := by decide +kernel
theorem d_Law_law_18 : decode code 18 = .ok (.iload_n 3, 1) := by decide +kernel
theorem d_Law_law_19 : decode code 19 = .ok (.aload_n 0, 1) := by decide +kernel
theorem d_Law_law_20 : decode code 20 = .ok (.arraylength, 1) := by decide +kernel
theorem d_Law_law_21 : decode code 21 = .ok (.iconst 4, 1) := by decide +kernel
theorem d_Law_law_22 : decode code 22 = .ok (.isub, 1) := by decide +kernel
theorem d_Law_law_23 : decode code 23 = .ok (.if_icmp .gt 299, 3) := by decide +kernel
theorem d_Law_law_26 : decode code 26 = .ok (.aload_n 0, 1) := by decide +kernel
theorem d_Law_law_27 : decode code 27 = .ok (.iload_n 3, 1) := by decide +kernel
theorem d_Law_law_28 : decode code 28 = .ok (.iaload, 1) := by decide +kernel
theorem d_Law_law_29 : decode code 29 = .ok (.bipush 15, 2) := by decide +kernel
theorem d_Law_law_31 : decode code 31 = .ok (.iand, 1) := by decide +kernel
theorem d_Law_law_32 : decode code 32 = .ok (.tableswitch 284 0 9 #[56, 119, 140, 153, 166, 179, 192, 205, 228, 261], 56) := by decide +kernel
theorem d_Law_law_88 : decode code 88 = .ok (.aload_n 1, 1) := by decide +kernel
theorem d_Law_law_89 : decode code 89 = .ok (.aload_n 0, 1) := by decide +kernel
theorem d_Law_law_90 : decode code 90 = .ok (.iload_n 3, 1) := by decide +kernel
theorem d_Law_law_91 : decode code 91 = .ok (.iconst 1, 1) := by decide +kernel
theorem d_Law_law_92 : decode code 92 = .ok (.iadd, 1) := by decide +kernel
theorem d_Law_law_93 : decode code 93 = .ok (.iaload, 1) := by decide +kernel
theorem d_Law_law_94 : decode code 94 = .ok (.i2l, 1) := by decide +kernel
theorem d_Law_law_95 : decode code 95 = .ok (.bipush 32, 2) := by decide +kernel
theorem d_Law_law_97 : decode code 97 = .ok (.lshl, 1) := by decide +kernel
theorem d_Law_law_98 : decode code 98 = .ok (.aload_n 0, 1) := by decide +kernel
theorem d_Law_law_99 : decode code 99 = .ok (.iload_n 3, 1) := by decide +kernel
theorem d_Law_law_100 : decode code 100 = .ok (.iconst 2, 1) := by decide +kernel
theorem d_Law_law_101 : decode code 101 = .ok (.iadd, 1) := by decide +kernel
theorem d_Law_law_102 : decode code 102 = .ok (.iaload, 1) := by decide +kernel
theorem d_Law_law_103 : decode code 103 = .ok (.i2l, 1) := by decide +kernel
theorem d_Law_law_104 : decode code 104 = .ok (.ldc2_w 13, 3) := by decide +kernel
theorem d_Law_law_107 : decode code 107 = .ok (.land, 1) := by decide +kernel
theorem d_Law_law_108 : decode code 108 = .ok (.lor, 1) := by decide +kernel
theorem d_Law_law_109 : decode code 109 = .ok (.aload_n 0, 1) := by decide +kernel
theorem d_Law_law_110 : decode code 110 = .ok (.iload_n 3, 1) := by decide +kernel
theorem d_Law_law_111 : decode code 111 = .ok (.iconst 3, 1) := by decide +kernel
theorem d_Law_law_112 : decode code 112 = .ok (.iadd, 1) := by decide +kernel
theorem d_Law_law_113 : decode code 113 = .ok (.iaload, 1) := by decide +kernel
theorem d_Law_law_114 : decode code 114 = .ok (.invokevirtual 15, 3) := by decide +kernel
theorem d_Law_law_117 : decode code 117 = .ok (.aload_n 2, 1) := by decide +kernel
theorem d_Law_law_118 : decode code 118 = .ok (.aload_n 0, 1) := by decide +kernel
theorem d_Law_law_119 : decode code 119 = .ok (.iload_n 3, 1) := by decide +kernel
theorem d_Law_law_120 : decode code 120 = .ok (.iconst 1, 1) := by decide +kernel
theorem d_Law_law_121 : decode code 121 = .ok (.iadd, 1) := by decide +kernel
theorem d_Law_law_122 : decode code 122 = .ok (.iaload, 1) := by decide +kernel
theorem d_Law_law_123 : decode code 123 = .ok (.i2l, 1) := by decide +kernel
theorem d_Law_law_124 : decode code 124 = .ok (.bipush 32, 2) := by decide +kernel
theorem d_Law_law_126 : decode code 126 = .ok (.lshl, 1) := by decide +kernel
theorem d_Law_law_127 : decode code 127 = .ok (.aload_n 0, 1) := by decide +kernel
theorem d_Law_law_128 : decode code 128 = .ok (.iload_n 3, 1) := by decide +kernel
theorem d_Law_law_129 : decode code 129 = .ok (.iconst 2, 1) := by decide +kernel
theorem d_Law_law_130 : decode code 130 = .ok (.iadd, 1) := by decide +kernel
theorem d_Law_law_131 : decode code 131 = .ok (.iaload, 1) := by decide +kernel
theorem d_Law_law_132 : decode code 132 = .ok (.i2l, 1) := by decide +kernel
theorem d_Law_law_133 : decode code 133 = .ok (.ldc2_w 13, 3) := by decide +kernel
theorem d_Law_law_136 : decode code 136 = .ok (.land, 1) := by decide +kernel
theorem d_Law_law_137 : decode code 137 = .ok (.lor, 1) := by decide +kernel
theorem d_Law_law_138 : decode code 138 = .ok (.aload_n 0, 1) := by decide +kernel
theorem d_Law_law_139 : decode code 139 = .ok (.iload_n 3, 1) := by decide +kernel
theorem d_Law_law_140 : decode code 140 = .ok (.iconst 3, 1) := by decide +kernel
theorem d_Law_law_141 : decode code 141 = .ok (.iadd, 1) := by decide +kernel
theorem d_Law_law_142 : decode code 142 = .ok (.iaload, 1) := by decide +kernel
theorem d_Law_law_143 : decode code 143 = .ok (.invokevirtual 19, 3) := by decide +kernel
theorem d_Law_law_146 : decode code 146 = .ok (.if_icmp .eq 170, 3) := by decide +kernel
theorem d_Law_law_149 : decode code 149 = .ok (.iconst 0, 1) := by decide +kernel
theorem d_Law_law_150 : decode code 150 = .ok (.ireturn, 1) := by decide +kernel
theorem d_Law_law_151 : decode code 151 = .ok (.aload_n 1, 1) := by decide +kernel
theorem d_Law_law_152 : decode code 152 = .ok (.aload_n 0, 1) := by decide +kernel
theorem d_Law_law_153 : decode code 153 = .ok (.iload_n 3, 1) := by decide +kernel
theorem d_Law_law_154 : decode code 154 = .ok (.iconst 1, 1) := by decide +kernel
theorem d_Law_law_155 : decode code 155 = .ok (.iadd, 1) := by decide +kernel
theorem d_Law_law_156 : decode code 156 = .ok (.iaload, 1) := by decide +kernel
theorem d_Law_law_157 : decode code 157 = .ok (.invokevirtual 20, 3) := by decide +kernel
theorem d_Law_law_160 : decode code 160 = .ok (.aload_n 2, 1) := by decide +kernel
theorem d_Law_law_161 : decode code 161 = .ok (.aload_n 0, 1) := by decide +kernel
theorem d_Law_law_162 : decode code 162 = .ok (.iload_n 3, 1) := by decide +kernel
theorem d_Law_law_163 : decode code 163 = .ok (.iconst 1, 1) := by decide +kernel
theorem d_Law_law_164 : decode code 164 = .ok (.iadd, 1) := by decide +kernel
theorem d_Law_law_165 : decode code 165 = .ok (.iaload, 1) := by decide +kernel
theorem d_Law_law_166 : decode code 166 = .ok (.invokevirtual 24, 3) := by decide +kernel
theorem d_Law_law_169 : decode code 169 = .ok (.goto 147, 3) := by decide +kernel
theorem d_Law_law_172 : decode code 172 = .ok (.aload_n 1, 1) := by decide +kernel
theorem d_Law_law_173 : decode code 173 = .ok (.invokevirtual 25, 3) := by decide +kernel
theorem d_Law_law_176 : decode code 176 = .ok (.aload_n 2, 1) := by decide +kernel
theorem d_Law_law_177 : decode code 177 = .ok (.invokevirtual 29, 3) := by decide +kernel
theorem d_Law_law_180 : decode code 180 = .ok (.if_icmp .eq 136, 3) := by decide +kernel
theorem d_Law_law_183 : decode code 183 = .ok (.iconst 0, 1) := by decide +kernel
theorem d_Law_law_184 : decode code 184 = .ok (.ireturn, 1) := by decide +kernel
theorem d_Law_law_185 : decode code 185 = .ok (.aload_n 1, 1) := by decide +kernel
theorem d_Law_law_186 : decode code 186 = .ok (.invokevirtual 30, 3) := by decide +kernel
theorem d_Law_law_189 : decode code 189 = .ok (.aload_n 2, 1) := by decide +kernel
theorem d_Law_law_190 : decode code 190 = .ok (.invokevirtual 33, 3) := by decide +kernel
theorem d_Law_law_193 : decode code 193 = .ok (.if_icmp .eq 123, 3) := by decide +kernel
theorem d_Law_law_196 : decode code 196 = .ok (.iconst 0, 1) := by decide +kernel
theorem d_Law_law_197 : decode code 197 = .ok (.ireturn, 1) := by decide +kernel
theorem d_Law_law_198 : decode code 198 = .ok (.aload_n 1, 1) := by decide +kernel
theorem d_Law_law_199 : decode code 199 = .ok (.invokevirtual 34, 3) := by decide +kernel
theorem d_Law_law_202 : decode code 202 = .ok (.aload_n 2, 1) := by decide +kernel
theorem d_Law_law_203 : decode code 203 = .ok (.invokevirtual 37, 3) := by decide +kernel
theorem d_Law_law_206 : decode code 206 = .ok (.if_icmp .eq 110, 3) := by decide +kernel
theorem d_Law_law_209 : decode code 209 = .ok (.iconst 0, 1) := by decide +kernel
theorem d_Law_law_210 : decode code 210 = .ok (.ireturn, 1) := by decide +kernel
theorem d_Law_law_211 : decode code 211 = .ok (.aload_n 1, 1) := by decide +kernel
theorem d_Law_law_212 : decode code 212 = .ok (.invokevirtual 38, 3) := by decide +kernel
theorem d_Law_law_215 : decode code 215 = .ok (.aload_n 2, 1) := by decide +kernel
theorem d_Law_law_216 : decode code 216 = .ok (.invokevirtual 41, 3) := by decide +kernel
theorem d_Law_law_219 : decode code 219 = .ok (.if_icmp .eq 97, 3) := by decide +kernel
theorem d_Law_law_222 : decode code 222 = .ok (.iconst 0, 1) := by decide +kernel
theorem d_Law_law_223 : decode code 223 = .ok (.ireturn, 1) := by decide +kernel
theorem d_Law_law_224 : decode code 224 = .ok (.aload_n 1, 1) := by decide +kernel
theorem d_Law_law_225 : decode code 225 = .ok (.invokevirtual 42, 3) := by decide +kernel
theorem d_Law_law_228 : decode code 228 = .ok (.aload_n 2, 1) := by decide +kernel
theorem d_Law_law_229 : decode code 229 = .ok (.invokevirtual 46, 3) := by decide +kernel
theorem d_Law_law_232 : decode code 232 = .ok (.if_icmp .eq 84, 3) := by decide +kernel
theorem d_Law_law_235 : decode code 235 = .ok (.iconst 0, 1) := by decide +kernel
theorem d_Law_law_236 : decode code 236 = .ok (.ireturn, 1) := by decide +kernel
theorem d_Law_law_237 : decode code 237 = .ok (.aload_n 1, 1) := by decide +kernel
theorem d_Law_law_238 : decode code 238 = .ok (.aload_n 0, 1) := by decide +kernel
theorem d_Law_law_239 : decode code 239 = .ok (.iload_n 3, 1) := by decide +kernel
theorem d_Law_law_240 : decode code 240 = .ok (.iconst 1, 1) := by decide +kernel
theorem d_Law_law_241 : decode code 241 = .ok (.iadd, 1) := by decide +kernel
theorem d_Law_law_242 : decode code 242 = .ok (.iaload, 1) := by decide +kernel
theorem d_Law_law_243 : decode code 243 = .ok (.invokevirtual 47, 3) := by decide +kernel
theorem d_Law_law_246 : decode code 246 = .ok (.aload_n 2, 1) := by decide +kernel
theorem d_Law_law_247 : decode code 247 = .ok (.aload_n 0, 1) := by decide +kernel
theorem d_Law_law_248 : decode code 248 = .ok (.iload_n 3, 1) := by decide +kernel
theorem d_Law_law_249 : decode code 249 = .ok (.iconst 1, 1) := by decide +kernel
theorem d_Law_law_250 : decode code 250 = .ok (.iadd, 1) := by decide +kernel
theorem d_Law_law_251 : decode code 251 = .ok (.iaload, 1) := by decide +kernel
theorem d_Law_law_252 : decode code 252 = .ok (.invokevirtual 51, 3) := by decide +kernel
theorem d_Law_law_255 : decode code 255 = .ok (.if_icmp .eq 61, 3) := by decide +kernel
theorem d_Law_law_258 : decode code 258 = .ok (.iconst 0, 1) := by decide +kernel
theorem d_Law_law_259 : decode code 259 = .ok (.ireturn, 1) := by decide +kernel
theorem d_Law_law_260 : decode code 260 = .ok (.aload_n 1, 1) := by decide +kernel
theorem d_Law_law_261 : decode code 261 = .ok (.aload_n 0, 1) := by decide +kernel
theorem d_Law_law_262 : decode code 262 = .ok (.iload_n 3, 1) := by decide +kernel
theorem d_Law_law_263 : decode code 263 = .ok (.iconst 1, 1) := by decide +kernel
theorem d_Law_law_264 : decode code 264 = .ok (.iadd, 1) := by decide +kernel
theorem d_Law_law_265 : decode code 265 = .ok (.iaload, 1) := by decide +kernel
theorem d_Law_law_266 : decode code 266 = .ok (.aload_n 0, 1) := by decide +kernel
theorem d_Law_law_267 : decode code 267 = .ok (.iload_n 3, 1) := by decide +kernel
theorem d_Law_law_268 : decode code 268 = .ok (.iconst 2, 1) := by decide +kernel
theorem d_Law_law_269 : decode code 269 = .ok (.iadd, 1) := by decide +kernel
theorem d_Law_law_270 : decode code 270 = .ok (.iaload, 1) := by decide +kernel
theorem d_Law_law_271 : decode code 271 = .ok (.invokevirtual 52, 3) := by decide +kernel
theorem d_Law_law_274 : decode code 274 = .ok (.aload_n 2, 1) := by decide +kernel
theorem d_Law_law_275 : decode code 275 = .ok (.aload_n 0, 1) := by decide +kernel
theorem d_Law_law_276 : decode code 276 = .ok (.iload_n 3, 1) := by decide +kernel
theorem d_Law_law_277 : decode code 277 = .ok (.iconst 1, 1) := by decide +kernel
theorem d_Law_law_278 : decode code 278 = .ok (.iadd, 1) := by decide +kernel
theorem d_Law_law_279 : decode code 279 = .ok (.iaload, 1) := by decide +kernel
theorem d_Law_law_280 : decode code 280 = .ok (.aload_n 0, 1) := by decide +kernel
theorem d_Law_law_281 : decode code 281 = .ok (.iload_n 3, 1) := by decide +kernel
theorem d_Law_law_282 : decode code 282 = .ok (.iconst 2, 1) := by decide +kernel
theorem d_Law_law_283 : decode code 283 = .ok (.iadd, 1) := by decide +kernel
theorem d_Law_law_284 : decode code 284 = .ok (.iaload, 1) := by decide +kernel
theorem d_Law_law_285 : decode code 285 = .ok (.invokevirtual 56, 3) := by decide +kernel
theorem d_Law_law_288 : decode code 288 = .ok (.if_icmp .eq 28, 3) := by decide +kernel
theorem d_Law_law_291 : decode code 291 = .ok (.iconst 0, 1) := by decide +kernel
theorem d_Law_law_292 : decode code 292 = .ok (.ireturn, 1) := by decide +kernel
theorem d_Law_law_293 : decode code 293 = .ok (.aload_n 1, 1) := by decide +kernel
theorem d_Law_law_294 : decode code 294 = .ok (.aload_n 0, 1) := by decide +kernel
theorem d_Law_law_295 : decode code 295 = .ok (.iload_n 3, 1) := by decide +kernel
theorem d_Law_law_296 : decode code 296 = .ok (.iconst 1, 1) := by decide +kernel
theorem d_Law_law_297 : decode code 297 = .ok (.iadd, 1) := by decide +kernel
theorem d_Law_law_298 : decode code 298 = .ok (.iaload, 1) := by decide +kernel
theorem d_Law_law_299 : decode code 299 = .ok (.invokevirtual 57, 3) := by decide +kernel
theorem d_Law_law_302 : decode code 302 = .ok (.aload_n 2, 1) := by decide +kernel
theorem d_Law_law_303 : decode code 303 = .ok (.aload_n 0, 1) := by decide +kernel
theorem d_Law_law_304 : decode code 304 = .ok (.iload_n 3, 1) := by decide +kernel
theorem d_Law_law_305 : decode code 305 = .ok (.iconst 1, 1) := by decide +kernel
theorem d_Law_law_306 : decode code 306 = .ok (.iadd, 1) := by decide +kernel
theorem d_Law_law_307 : decode code 307 = .ok (.iaload, 1) := by decide +kernel
theorem d_Law_law_308 : decode code 308 = .ok (.invokevirtual 60, 3) := by decide +kernel
theorem d_Law_law_311 : decode code 311 = .ok (.if_icmp .eq 5, 3) := by decide +kernel
theorem d_Law_law_314 : decode code 314 = .ok (.iconst 0, 1) := by decide +kernel
theorem d_Law_law_315 : decode code 315 = .ok (.ireturn, 1) := by decide +kernel
theorem d_Law_law_316 : decode code 316 = .ok (.iinc 3 4, 3) := by decide +kernel
theorem d_Law_law_319 : decode code 319 = .ok (.goto (-301), 3) := by decide +kernel
theorem d_Law_law_322 : decode code 322 = .ok (.iconst 1, 1) := by decide +kernel
theorem d_Law_law_323 : decode code 323 = .ok (.ireturn, 1) := by decide +kernel
theorem law_cont {i L : Nat} (hL : L ≤ 2048) (hi : i ≤ L) (h : ¬ nI L - 4 < nI i) : i + 4 ≤ L := by
  rw [Int32.lt_iff_toInt_lt, show (4 : Int32) = nI 4 from rfl, pk_sub_toInt (by omega) (by omega), nI_toInt (by omega)] at h
  omega
theorem law_vp {i k L : Nat} (hL : L ≤ 2048) (h : i + k < L) : vp_in (nI i + nI k) L := by
  rw [nI_add]
  exact vp_in_nI h (by omega)
set_option maxHeartbeats 4000000 in
set_option maxRecDepth 100000 in
theorem law_loop {p : Program} {l : Launch} {e : Env} {s : State} {m : MethodId} {below : List Frame} {meth : Method} {c : Code} {D : va_G} {qX qM tX tM : Nat → Nat} {cA : ClassId} {b L : Nat} {xs : Nat → Int32} {Rel : sd_Me → sd_Me → Prop} (hsim : sd_Sim Rel) (hL : L ≤ 2048) (C0 : lw_At p s m meth c b L xs) (hK : va_K D vwCl [(cA, .int)] s) (hZX : ZX tX (fun q : Nat => s.heap.size ≤ q) s s.heap) (hZM : ZM tM (fun q : Nat => s.heap.size ≤ q) s s.heap) :
    ∀ (n i : Nat) (μ ν : sd_Me) (H : Heap) (locs : List Loc) (ls : Array Slot), i ≤ L → L < i + n → Rel μ ν → sd_CF vwCl (wdX qX cA μ) (wdM qM cA ν) D (fun q : Nat => s.heap.size ≤ q) s H locs → lv_has ls 4 [(0, .ref b), (1, .ref (qX 0)), (2, .ref (qM 0)), (3, .int (nI i))] → W p l e room_1 s m #[Value.ref b] below meth c H locs 30 26212 (lw_Z below #[Value.ref b] s) (F0 m 18 ls []) := by
  obtain ⟨hx, hb, hr, hml, hown, hts0, hX, hbl, hlocks, hgv⟩ := id C0
  have hts := sx_hts hts0
  have hA : ∀ q : Nat, s.heap.size ≤ q → (fun q : Nat => s.heap.size ≤ q) q := fun _ h => h
  have hbA : ¬ (fun q : Nat => s.heap.size ≤ q) b := Nat.not_le.mpr hbl
  intro n
  induction n with
  | zero =>
    intro i μ ν H locs ls h1 h2
    exact absurd h2 (by omega)
  | succ n ih =>
    intro i μ ν H locs ls hi hin hR hI hl
    have hS := hI.2.2.2.2.2
    refine lv_iload_n hx hb d_Law_law_18 rfl (lv_at hl 3 rfl) ?_
    refine lv_aload_n hx hb d_Law_law_19 rfl (lv_at hl 0 rfl) ?_
    refine va_slen hx hb hX hbl hbA hS d_Law_law_20 ?_
    refine lv_iconst (v := 4) hx hb d_Law_law_21 (by decide) ?_
    refine lv_isub hx hb d_Law_law_22 ?_
    refine lv_icmp_gt (tgt := 322) hx hb d_Law_law_23 (by decide) (fun hc => ?_) (fun hc => ?_)
    · refine lv_iconst (v := 1) hx hb d_Law_law_322 (by decide) ?_
      refine va_forget (fun q hq => hS.2.2 q hq) ?_
      refine W.widen (k := 600000) (n := 7302250) (Nat.le_of_ble_eq_true rfl) (Nat.le_of_ble_eq_true rfl) ?_
      exact lw_ret hx hb hr hlocks d_Law_law_323
    · have hi4 : i + 4 ≤ L := law_cont hL hi hc
      have v0 : vp_in (nI i) L := vp_in_nI (by omega) (by omega)
      have v1 : vp_in (nI i + 1) L := law_vp (k := 1) hL (by omega)
      have v2 : vp_in (nI i + 2) L := law_vp (k := 2) hL (by omega)
      have v3 : vp_in (nI i + 3) L := law_vp (k := 3) hL (by omega)
      have NEXT : ∀ (μ ν : sd_Me) (H : Heap) (locs : List Loc), Rel μ ν → sd_CF vwCl (wdX qX cA μ) (wdM qM cA ν) D (fun q : Nat => s.heap.size ≤ q) s H locs → W p l e room_1 s m #[Value.ref b] below meth c H locs 30 26212 (lw_Z below #[Value.ref b] s) (F0 m 316 ls []) := by
        intro μ ν H locs hR hI
        refine lv_iinc (v := nI (i + 4)) (lv' := [(3, .int (nI (i + 4))), (0, .ref b), (1, .ref (qX 0)), (2, .ref (qM 0))]) hx hb d_Law_law_316 hl (k := 3) rfl (nI_add i 4) (by decide) rfl (fun ls hl => ?_)
        refine lv_goto (tgt := 18) hx hb d_Law_law_319 (by decide) ?_
        exact ih (i + 4) μ ν H locs ls hi4 (by omega) hR hI (lv_sub hl [1, 2, 3, 0] rfl)
      refine lv_aload_n hx hb d_Law_law_26 rfl (lv_at hl 0 rfl) ?_
      refine lv_iload_n hx hb d_Law_law_27 rfl (lv_at hl 3 rfl) ?_
      refine va_sld hx hb hX hbl hbA hS v0 d_Law_law_28 ?_
      refine lv_bipush (v := 15) hx hb d_Law_law_29 (by decide) ?_
      refine lv_iand hx hb d_Law_law_31 ?_
      refine lv_topi (fun cd hcd => ?_)
      by_cases c0 : cd = 0
      · refine k_tbl (off := 56) (tgt := 88) hx hb d_Law_law_32 (by decide) (by rw [c0]; decide) (by decide) ?_
        obtain ⟨r, μ', ν', hqX, hqM, hR'⟩ := (hsim μ ν hR).1 ((sd_lsl (Int32.toInt64 (xs ((nI i) + 1).toNatClampNeg)) 32) ||| ((Int32.toInt64 (xs ((nI i) + 2).toNatClampNeg)) &&& 4294967295)) (xs ((nI i) + 3).toNatClampNeg)
        refine lv_aload_n hx hb d_Law_law_88 rfl (lv_at hl 1 rfl) ?_
        refine lv_aload_n hx hb d_Law_law_89 rfl (lv_at hl 0 rfl) ?_
        refine lv_iload_n hx hb d_Law_law_90 rfl (lv_at hl 3 rfl) ?_
        refine lv_iconst (v := 1) hx hb d_Law_law_91 (by decide) ?_
        refine lv_iadd hx hb d_Law_law_92 ?_
        refine va_sld hx hb hX hbl hbA hS v1 d_Law_law_93 ?_
        refine lv_i2l (v := Int32.toInt64 (xs ((nI i) + 1).toNatClampNeg)) hx hb d_Law_law_94 rfl ?_
        refine lv_bipush (v := 32) hx hb d_Law_law_95 (by decide) ?_
        refine lv_lshl (v := sd_lsl (Int32.toInt64 (xs ((nI i) + 1).toNatClampNeg)) 32) hx hb d_Law_law_97 rfl ?_
        refine lv_aload_n hx hb d_Law_law_98 rfl (lv_at hl 0 rfl) ?_
        refine lv_iload_n hx hb d_Law_law_99 rfl (lv_at hl 3 rfl) ?_
        refine lv_iconst (v := 2) hx hb d_Law_law_100 (by decide) ?_
        refine lv_iadd hx hb d_Law_law_101 ?_
        refine va_sld hx hb hX hbl hbA hS v2 d_Law_law_102 ?_
        refine lv_i2l (v := Int32.toInt64 (xs ((nI i) + 2).toNatClampNeg)) hx hb d_Law_law_103 rfl ?_
        refine lv_ldc2 (v := 4294967295) hx hb hown (hts _ tw_796) d_Law_law_104 ?_
        refine lv_land hx hb d_Law_law_107 ?_
        refine lv_lor hx hb d_Law_law_108 ?_
        refine lv_aload_n hx hb d_Law_law_109 rfl (lv_at hl 0 rfl) ?_
        refine lv_iload_n hx hb d_Law_law_110 rfl (lv_at hl 3 rfl) ?_
        refine lv_iconst (v := 3) hx hb d_Law_law_111 (by decide) ?_
        refine lv_iadd hx hb d_Law_law_112 ?_
        refine va_sld hx hb hX hbl hbA hS v3 d_Law_law_113 ?_
        refine k_lawV (As := [.long ((sd_lsl (Int32.toInt64 (xs ((nI i) + 1).toNatClampNeg)) 32) ||| ((Int32.toInt64 (xs ((nI i) + 2).toNatClampNeg)) &&& 4294967295)), .int (xs ((nI i) + 3).toNatClampNeg)]) (rest := []) (C := "ScriptDesk") (ci := 0) ZX_ok ⟨hx, hb, hml, hown, hts⟩ hK hZX hA hI (mt_Desk_put_r0 l hqX) (cwV 2 hts (gd_V tw_170 tw_171 tw_172 tw_1 tw_173) rfl rfl rfl (by decide +kernel) ⟨Nat.le_of_ble_eq_true rfl, Nat.le_of_ble_eq_true rfl⟩) 0 rfl rfl rfl hl.1 rfl (Nat.le_of_ble_eq_true rfl) d_Law_law_114 ⟨Nat.le_of_ble_eq_true rfl, Nat.le_of_ble_eq_true rfl⟩ (fun H locs hn hI => ?_)
        have hS := hI.2.2.2.2.2
        refine lv_aload_n hx hb d_Law_law_117 rfl (lv_at hl 2 rfl) ?_
        refine lv_aload_n hx hb d_Law_law_118 rfl (lv_at hl 0 rfl) ?_
        refine lv_iload_n hx hb d_Law_law_119 rfl (lv_at hl 3 rfl) ?_
        refine lv_iconst (v := 1) hx hb d_Law_law_120 (by decide) ?_
        refine lv_iadd hx hb d_Law_law_121 ?_
        refine va_sld hx hb hX hbl hbA hS v1 d_Law_law_122 ?_
        refine lv_i2l (v := Int32.toInt64 (xs ((nI i) + 1).toNatClampNeg)) hx hb d_Law_law_123 rfl ?_
        refine lv_bipush (v := 32) hx hb d_Law_law_124 (by decide) ?_
        refine lv_lshl (v := sd_lsl (Int32.toInt64 (xs ((nI i) + 1).toNatClampNeg)) 32) hx hb d_Law_law_126 rfl ?_
        refine lv_aload_n hx hb d_Law_law_127 rfl (lv_at hl 0 rfl) ?_
        refine lv_iload_n hx hb d_Law_law_128 rfl (lv_at hl 3 rfl) ?_
        refine lv_iconst (v := 2) hx hb d_Law_law_129 (by decide) ?_
        refine lv_iadd hx hb d_Law_law_130 ?_
        refine va_sld hx hb hX hbl hbA hS v2 d_Law_law_131 ?_
        refine lv_i2l (v := Int32.toInt64 (xs ((nI i) + 2).toNatClampNeg)) hx hb d_Law_law_132 rfl ?_
        refine lv_ldc2 (v := 4294967295) hx hb hown (hts _ tw_796) d_Law_law_133 ?_
        refine lv_land hx hb d_Law_law_136 ?_
        refine lv_lor hx hb d_Law_law_137 ?_
        refine lv_aload_n hx hb d_Law_law_138 rfl (lv_at hl 0 rfl) ?_
        refine lv_iload_n hx hb d_Law_law_139 rfl (lv_at hl 3 rfl) ?_
        refine lv_iconst (v := 3) hx hb d_Law_law_140 (by decide) ?_
        refine lv_iadd hx hb d_Law_law_141 ?_
        refine va_sld hx hb hX hbl hbA hS v3 d_Law_law_142 ?_
        refine k_lawV (As := [.long ((sd_lsl (Int32.toInt64 (xs ((nI i) + 1).toNatClampNeg)) 32) ||| ((Int32.toInt64 (xs ((nI i) + 2).toNatClampNeg)) &&& 4294967295)), .int (xs ((nI i) + 3).toNatClampNeg)]) (rest := [.int r]) (C := "ScriptDeskModel") (ci := 7) ZM_ok ⟨hx, hb, hml, hown, hts⟩ hK hZM hA (sd_CF_swap hI) (mt_Model_put_r0 l hqM) (cwV 2 hts (gd_V tw_586 tw_587 tw_588 tw_9 tw_589) rfl rfl rfl (by decide +kernel) ⟨Nat.le_of_ble_eq_true rfl, Nat.le_of_ble_eq_true rfl⟩) 0 rfl rfl rfl hl.1 rfl (Nat.le_of_ble_eq_true rfl) d_Law_law_143 ⟨Nat.le_of_ble_eq_true rfl, Nat.le_of_ble_eq_true rfl⟩ (fun H locs hn hI => ?_)
        have hS := hI.2.2.2.2.2
        refine lv_icmp_eq (tgt := 316) hx hb d_Law_law_146 (by decide) (fun hc => ?_) (fun hc => absurd rfl hc)
        exact NEXT _ _ _ _ hR' (sd_CF_swap hI)
      by_cases c1 : cd = 1
      · refine k_tbl (off := 119) (tgt := 151) hx hb d_Law_law_32 (by decide) (by rw [c1]; decide) (by decide) ?_
        obtain ⟨μ', ν', hqX, hqM, hR'⟩ := (hsim μ ν hR).2.1 (xs ((nI i) + 1).toNatClampNeg)
        refine lv_aload_n hx hb d_Law_law_151 rfl (lv_at hl 1 rfl) ?_
        refine lv_aload_n hx hb d_Law_law_152 rfl (lv_at hl 0 rfl) ?_
        refine lv_iload_n hx hb d_Law_law_153 rfl (lv_at hl 3 rfl) ?_
        refine lv_iconst (v := 1) hx hb d_Law_law_154 (by decide) ?_
        refine lv_iadd hx hb d_Law_law_155 ?_
        refine va_sld hx hb hX hbl hbA hS v1 d_Law_law_156 ?_
        refine k_lawVv (As := [.int (xs ((nI i) + 1).toNatClampNeg)]) (rest := []) (C := "ScriptDesk") (ci := 0) ZX_ok ⟨hx, hb, hml, hown, hts⟩ hK hZX hA hI (mt_Desk_secret_r0 l hqX) (cwV 1 hts (gd_V tw_175 tw_176 tw_177 tw_1 tw_178) rfl rfl rfl (by decide +kernel) ⟨Nat.le_of_ble_eq_true rfl, Nat.le_of_ble_eq_true rfl⟩) 0 rfl rfl rfl hl.1 rfl (Nat.le_of_ble_eq_true rfl) d_Law_law_157 ⟨Nat.le_of_ble_eq_true rfl, Nat.le_of_ble_eq_true rfl⟩ (fun H locs hI => ?_)
        have hS := hI.2.2.2.2.2
        refine lv_aload_n hx hb d_Law_law_160 rfl (lv_at hl 2 rfl) ?_
        refine lv_aload_n hx hb d_Law_law_161 rfl (lv_at hl 0 rfl) ?_
        refine lv_iload_n hx hb d_Law_law_162 rfl (lv_at hl 3 rfl) ?_
        refine lv_iconst (v := 1) hx hb d_Law_law_163 (by decide) ?_
        refine lv_iadd hx hb d_Law_law_164 ?_
        refine va_sld hx hb hX hbl hbA hS v1 d_Law_law_165 ?_
        refine k_lawVv (As := [.int (xs ((nI i) + 1).toNatClampNeg)]) (rest := []) (C := "ScriptDeskModel") (ci := 7) ZM_ok ⟨hx, hb, hml, hown, hts⟩ hK hZM hA (sd_CF_swap hI) (mt_Model_secret_r0 l hqM) (cwV 1 hts (gd_V tw_591 tw_592 tw_593 tw_9 tw_594) rfl rfl rfl (by decide +kernel) ⟨Nat.le_of_ble_eq_true rfl, Nat.le_of_ble_eq_true rfl⟩) 0 rfl rfl rfl hl.1 rfl (Nat.le_of_ble_eq_true rfl) d_Law_law_166 ⟨Nat.le_of_ble_eq_true rfl, Nat.le_of_ble_eq_true rfl⟩ (fun H locs hI => ?_)
        have hS := hI.2.2.2.2.2
        refine lv_goto (tgt := 316) hx hb d_Law_law_169 (by decide) ?_
        exact NEXT _ _ _ _ hR' (sd_CF_swap hI)
      by_cases c2 : cd = 2
      · refine k_tbl (off := 140) (tgt := 172) hx hb d_Law_law_32 (by decide) (by rw [c2]; decide) (by decide) ?_
        obtain ⟨r, μ', ν', hqX, hqM, hR'⟩ := (hsim μ ν hR).2.2.1
        refine lv_aload_n hx hb d_Law_law_172 rfl (lv_at hl 1 rfl) ?_
        refine k_lawV (As := []) (rest := []) (C := "ScriptDesk") (ci := 0) ZX_ok ⟨hx, hb, hml, hown, hts⟩ hK hZX hA hI (mt_Desk_run_r0 l hqX) (cwV 0 hts (gd_V tw_179 tw_180 tw_181 tw_1 tw_182) rfl rfl rfl (by decide +kernel) ⟨Nat.le_of_ble_eq_true rfl, Nat.le_of_ble_eq_true rfl⟩) 0 rfl rfl rfl hl.1 rfl (Nat.le_of_ble_eq_true rfl) d_Law_law_173 ⟨Nat.le_of_ble_eq_true rfl, Nat.le_of_ble_eq_true rfl⟩ (fun H locs hn hI => ?_)
        have hS := hI.2.2.2.2.2
        refine lv_aload_n hx hb d_Law_law_176 rfl (lv_at hl 2 rfl) ?_
        refine k_lawV (As := []) (rest := [.int r]) (C := "ScriptDeskModel") (ci := 7) ZM_ok ⟨hx, hb, hml, hown, hts⟩ hK hZM hA (sd_CF_swap hI) (mt_Model_run_r0 l hqM) (cwV 0 hts (gd_V tw_595 tw_596 tw_597 tw_9 tw_598) rfl rfl rfl (by decide +kernel) ⟨Nat.le_of_ble_eq_true rfl, Nat.le_of_ble_eq_true rfl⟩) 0 rfl rfl rfl hl.1 rfl (Nat.le_of_ble_eq_true rfl) d_Law_law_177 ⟨Nat.le_of_ble_eq_true rfl, Nat.le_of_ble_eq_true rfl⟩ (fun H locs hn hI => ?_)
        have hS := hI.2.2.2.2.2
        refine lv_icmp_eq (tgt := 316) hx hb d_Law_law_180 (by decide) (fun hc => ?_) (fun hc => absurd rfl hc)
        exact NEXT _ _ _ _ hR' (sd_CF_swap hI)
      by_cases c3 : cd = 3
      · refine k_tbl (off := 153) (tgt := 185) hx hb d_Law_law_32 (by decide) (by rw [c3]; decide) (by decide) ?_
        obtain ⟨r, μ', ν', hqX, hqM, hR'⟩ := (hsim μ ν hR).2.2.2.1
        refine lv_aload_n hx hb d_Law_law_185 rfl (lv_at hl 1 rfl) ?_
        refine k_lawV (As := []) (rest := []) (C := "ScriptDesk") (ci := 0) ZX_ok ⟨hx, hb, hml, hown, hts⟩ hK hZX hA hI (mt_Desk_place_r0 l hqX) (cwV 0 hts (gd_V tw_495 tw_496 tw_497 tw_1 tw_498) rfl rfl rfl (by decide +kernel) ⟨Nat.le_of_ble_eq_true rfl, Nat.le_of_ble_eq_true rfl⟩) 0 rfl rfl rfl hl.1 rfl (Nat.le_of_ble_eq_true rfl) d_Law_law_186 ⟨Nat.le_of_ble_eq_true rfl, Nat.le_of_ble_eq_true rfl⟩ (fun H locs hn hI => ?_)
        have hS := hI.2.2.2.2.2
        refine lv_aload_n hx hb d_Law_law_189 rfl (lv_at hl 2 rfl) ?_
        refine k_lawV (As := []) (rest := [.int r]) (C := "ScriptDeskModel") (ci := 7) ZM_ok ⟨hx, hb, hml, hown, hts⟩ hK hZM hA (sd_CF_swap hI) (mt_Model_place_r0 l hqM) (cwV 0 hts (gd_V tw_768 tw_769 tw_770 tw_9 tw_771) rfl rfl rfl (by decide +kernel) ⟨Nat.le_of_ble_eq_true rfl, Nat.le_of_ble_eq_true rfl⟩) 0 rfl rfl rfl hl.1 rfl (Nat.le_of_ble_eq_true rfl) d_Law_law_190 ⟨Nat.le_of_ble_eq_true rfl, Nat.le_of_ble_eq_true rfl⟩ (fun H locs hn hI => ?_)
        have hS := hI.2.2.2.2.2
        refine lv_icmp_eq (tgt := 316) hx hb d_Law_law_193 (by decide) (fun hc => ?_) (fun hc => absurd rfl hc)
        exact NEXT _ _ _ _ hR' (sd_CF_swap hI)
      by_cases c4 : cd = 4
      · refine k_tbl (off := 166) (tgt := 198) hx hb d_Law_law_32 (by decide) (by rw [c4]; decide) (by decide) ?_
        obtain ⟨r, μ', ν', hqX, hqM, hR'⟩ := (hsim μ ν hR).2.2.2.2.1
        refine lv_aload_n hx hb d_Law_law_198 rfl (lv_at hl 1 rfl) ?_
        refine k_lawV (As := []) (rest := []) (C := "ScriptDesk") (ci := 0) ZX_ok ⟨hx, hb, hml, hown, hts⟩ hK hZX hA hI (mt_Desk_clear_r0 l hqX) (cwV 0 hts (gd_V tw_499 tw_500 tw_501 tw_1 tw_502) rfl rfl rfl (by decide +kernel) ⟨Nat.le_of_ble_eq_true rfl, Nat.le_of_ble_eq_true rfl⟩) 0 rfl rfl rfl hl.1 rfl (Nat.le_of_ble_eq_true rfl) d_Law_law_199 ⟨Nat.le_of_ble_eq_true rfl, Nat.le_of_ble_eq_true rfl⟩ (fun H locs hn hI => ?_)
        have hS := hI.2.2.2.2.2
        refine lv_aload_n hx hb d_Law_law_202 rfl (lv_at hl 2 rfl) ?_
        refine k_lawV (As := []) (rest := [.int r]) (C := "ScriptDeskModel") (ci := 7) ZM_ok ⟨hx, hb, hml, hown, hts⟩ hK hZM hA (sd_CF_swap hI) (mt_Model_clear_r0 l hqM) (cwV 0 hts (gd_V tw_772 tw_773 tw_774 tw_9 tw_775) rfl rfl rfl (by decide +kernel) ⟨Nat.le_of_ble_eq_true rfl, Nat.le_of_ble_eq_true rfl⟩) 0 rfl rfl rfl hl.1 rfl (Nat.le_of_ble_eq_true rfl) d_Law_law_203 ⟨Nat.le_of_ble_eq_true rfl, Nat.le_of_ble_eq_true rfl⟩ (fun H locs hn hI => ?_)
        have hS := hI.2.2.2.2.2
        refine lv_icmp_eq (tgt := 316) hx hb d_Law_law_206 (by decide) (fun hc => ?_) (fun hc => absurd rfl hc)
        exact NEXT _ _ _ _ hR' (sd_CF_swap hI)
      by_cases c5 : cd = 5
      · refine k_tbl (off := 179) (tgt := 211) hx hb d_Law_law_32 (by decide) (by rw [c5]; decide) (by decide) ?_
        obtain ⟨r, μ', ν', hqX, hqM, hR'⟩ := (hsim μ ν hR).2.2.2.2.2.1
        refine lv_aload_n hx hb d_Law_law_211 rfl (lv_at hl 1 rfl) ?_
        refine k_lawV (As := []) (rest := []) (C := "ScriptDesk") (ci := 0) ZX_ok ⟨hx, hb, hml, hown, hts⟩ hK hZX hA hI (mt_Desk_size_r0 l hqX) (cwV 0 hts (gd_V tw_503 tw_504 tw_505 tw_1 tw_506) rfl rfl rfl (by decide +kernel) ⟨Nat.le_of_ble_eq_true rfl, Nat.le_of_ble_eq_true rfl⟩) 0 rfl rfl rfl hl.1 rfl (Nat.le_of_ble_eq_true rfl) d_Law_law_212 ⟨Nat.le_of_ble_eq_true rfl, Nat.le_of_ble_eq_true rfl⟩ (fun H locs hn hI => ?_)
        have hS := hI.2.2.2.2.2
        refine lv_aload_n hx hb d_Law_law_215 rfl (lv_at hl 2 rfl) ?_
        refine k_lawV (As := []) (rest := [.int r]) (C := "ScriptDeskModel") (ci := 7) ZM_ok ⟨hx, hb, hml, hown, hts⟩ hK hZM hA (sd_CF_swap hI) (mt_Model_size_r0 l hqM) (cwV 0 hts (gd_V tw_776 tw_777 tw_778 tw_9 tw_779) rfl rfl rfl (by decide +kernel) ⟨Nat.le_of_ble_eq_true rfl, Nat.le_of_ble_eq_true rfl⟩) 0 rfl rfl rfl hl.1 rfl (Nat.le_of_ble_eq_true rfl) d_Law_law_216 ⟨Nat.le_of_ble_eq_true rfl, Nat.le_of_ble_eq_true rfl⟩ (fun H locs hn hI => ?_)
        have hS := hI.2.2.2.2.2
        refine lv_icmp_eq (tgt := 316) hx hb d_Law_law_219 (by decide) (fun hc => ?_) (fun hc => absurd rfl hc)
        exact NEXT _ _ _ _ hR' (sd_CF_swap hI)
      by_cases c6 : cd = 6
      · refine k_tbl (off := 192) (tgt := 224) hx hb d_Law_law_32 (by decide) (by rw [c6]; decide) (by decide) ?_
        obtain ⟨r, μ', ν', hqX, hqM, hR'⟩ := (hsim μ ν hR).2.2.2.2.2.2.1
        refine lv_aload_n hx hb d_Law_law_224 rfl (lv_at hl 1 rfl) ?_
        refine k_lawV (As := []) (rest := []) (C := "ScriptDesk") (ci := 0) ZX_ok ⟨hx, hb, hml, hown, hts⟩ hK hZX hA hI (mt_Desk_isTrue_r0 l hqX) (cwV 0 hts (gd_V tw_507 tw_508 tw_509 tw_1 tw_510) rfl rfl rfl (by decide +kernel) ⟨Nat.le_of_ble_eq_true rfl, Nat.le_of_ble_eq_true rfl⟩) 0 rfl rfl rfl hl.1 rfl (Nat.le_of_ble_eq_true rfl) d_Law_law_225 ⟨Nat.le_of_ble_eq_true rfl, Nat.le_of_ble_eq_true rfl⟩ (fun H locs hn hI => ?_)
        have hS := hI.2.2.2.2.2
        refine lv_aload_n hx hb d_Law_law_228 rfl (lv_at hl 2 rfl) ?_
        refine k_lawV (As := []) (rest := [.int r]) (C := "ScriptDeskModel") (ci := 7) ZM_ok ⟨hx, hb, hml, hown, hts⟩ hK hZM hA (sd_CF_swap hI) (mt_Model_isTrue_r0 l hqM) (cwV 0 hts (gd_V tw_780 tw_781 tw_782 tw_9 tw_783) rfl rfl rfl (by decide +kernel) ⟨Nat.le_of_ble_eq_true rfl, Nat.le_of_ble_eq_true rfl⟩) 0 rfl rfl rfl hl.1 rfl (Nat.le_of_ble_eq_true rfl) d_Law_law_229 ⟨Nat.le_of_ble_eq_true rfl, Nat.le_of_ble_eq_true rfl⟩ (fun H locs hn hI => ?_)
        have hS := hI.2.2.2.2.2
        refine lv_icmp_eq (tgt := 316) hx hb d_Law_law_232 (by decide) (fun hc => ?_) (fun hc => absurd rfl hc)
        exact NEXT _ _ _ _ hR' (sd_CF_swap hI)
      by_cases c7 : cd = 7
      · refine k_tbl (off := 205) (tgt := 237) hx hb d_Law_law_32 (by decide) (by rw [c7]; decide) (by decide) ?_
        obtain ⟨r, μ', ν', hqX, hqM, hR'⟩ := (hsim μ ν hR).2.2.2.2.2.2.2.1 (xs ((nI i) + 1).toNatClampNeg)
        refine lv_aload_n hx hb d_Law_law_237 rfl (lv_at hl 1 rfl) ?_
        refine lv_aload_n hx hb d_Law_law_238 rfl (lv_at hl 0 rfl) ?_
        refine lv_iload_n hx hb d_Law_law_239 rfl (lv_at hl 3 rfl) ?_
        refine lv_iconst (v := 1) hx hb d_Law_law_240 (by decide) ?_
        refine lv_iadd hx hb d_Law_law_241 ?_
        refine va_sld hx hb hX hbl hbA hS v1 d_Law_law_242 ?_
        refine k_lawV (As := [.int (xs ((nI i) + 1).toNatClampNeg)]) (rest := []) (C := "ScriptDesk") (ci := 0) ZX_ok ⟨hx, hb, hml, hown, hts⟩ hK hZX hA hI (mt_Desk_bytes_r0 l hqX) (cwV 1 hts (gd_V tw_511 tw_512 tw_513 tw_1 tw_514) rfl rfl rfl (by decide +kernel) ⟨Nat.le_of_ble_eq_true rfl, Nat.le_of_ble_eq_true rfl⟩) 0 rfl rfl rfl hl.1 rfl (Nat.le_of_ble_eq_true rfl) d_Law_law_243 ⟨Nat.le_of_ble_eq_true rfl, Nat.le_of_ble_eq_true rfl⟩ (fun H locs hn hI => ?_)
        have hS := hI.2.2.2.2.2
        refine lv_aload_n hx hb d_Law_law_246 rfl (lv_at hl 2 rfl) ?_
        refine lv_aload_n hx hb d_Law_law_247 rfl (lv_at hl 0 rfl) ?_
        refine lv_iload_n hx hb d_Law_law_248 rfl (lv_at hl 3 rfl) ?_
        refine lv_iconst (v := 1) hx hb d_Law_law_249 (by decide) ?_
        refine lv_iadd hx hb d_Law_law_250 ?_
        refine va_sld hx hb hX hbl hbA hS v1 d_Law_law_251 ?_
        refine k_lawV (As := [.int (xs ((nI i) + 1).toNatClampNeg)]) (rest := [.int r]) (C := "ScriptDeskModel") (ci := 7) ZM_ok ⟨hx, hb, hml, hown, hts⟩ hK hZM hA (sd_CF_swap hI) (mt_Model_bytes_r0 l hqM) (cwV 1 hts (gd_V tw_784 tw_785 tw_786 tw_9 tw_787) rfl rfl rfl (by decide +kernel) ⟨Nat.le_of_ble_eq_true rfl, Nat.le_of_ble_eq_true rfl⟩) 0 rfl rfl rfl hl.1 rfl (Nat.le_of_ble_eq_true rfl) d_Law_law_252 ⟨Nat.le_of_ble_eq_true rfl, Nat.le_of_ble_eq_true rfl⟩ (fun H locs hn hI => ?_)
        have hS := hI.2.2.2.2.2
        refine lv_icmp_eq (tgt := 316) hx hb d_Law_law_255 (by decide) (fun hc => ?_) (fun hc => absurd rfl hc)
        exact NEXT _ _ _ _ hR' (sd_CF_swap hI)
      by_cases c8 : cd = 8
      · refine k_tbl (off := 228) (tgt := 260) hx hb d_Law_law_32 (by decide) (by rw [c8]; decide) (by decide) ?_
        obtain ⟨r, μ', ν', hqX, hqM, hR'⟩ := (hsim μ ν hR).2.2.2.2.2.2.2.2.1 (xs ((nI i) + 1).toNatClampNeg) (xs ((nI i) + 2).toNatClampNeg)
        refine lv_aload_n hx hb d_Law_law_260 rfl (lv_at hl 1 rfl) ?_
        refine lv_aload_n hx hb d_Law_law_261 rfl (lv_at hl 0 rfl) ?_
        refine lv_iload_n hx hb d_Law_law_262 rfl (lv_at hl 3 rfl) ?_
        refine lv_iconst (v := 1) hx hb d_Law_law_263 (by decide) ?_
        refine lv_iadd hx hb d_Law_law_264 ?_
        refine va_sld hx hb hX hbl hbA hS v1 d_Law_law_265 ?_
        refine lv_aload_n hx hb d_Law_law_266 rfl (lv_at hl 0 rfl) ?_
        refine lv_iload_n hx hb d_Law_law_267 rfl (lv_at hl 3 rfl) ?_
        refine lv_iconst (v := 2) hx hb d_Law_law_268 (by decide) ?_
        refine lv_iadd hx hb d_Law_law_269 ?_
        refine va_sld hx hb hX hbl hbA hS v2 d_Law_law_270 ?_
        refine k_lawV (As := [.int (xs ((nI i) + 1).toNatClampNeg), .int (xs ((nI i) + 2).toNatClampNeg)]) (rest := []) (C := "ScriptDesk") (ci := 0) ZX_ok ⟨hx, hb, hml, hown, hts⟩ hK hZX hA hI (mt_Desk_byteOf_r0 l hqX) (cwV 2 hts (gd_V tw_516 tw_517 tw_518 tw_1 tw_519) rfl rfl rfl (by decide +kernel) ⟨Nat.le_of_ble_eq_true rfl, Nat.le_of_ble_eq_true rfl⟩) 0 rfl rfl rfl hl.1 rfl (Nat.le_of_ble_eq_true rfl) d_Law_law_271 ⟨Nat.le_of_ble_eq_true rfl, Nat.le_of_ble_eq_true rfl⟩ (fun H locs hn hI => ?_)
        have hS := hI.2.2.2.2.2
        refine lv_aload_n hx hb d_Law_law_274 rfl (lv_at hl 2 rfl) ?_
        refine lv_aload_n hx hb d_Law_law_275 rfl (lv_at hl 0 rfl) ?_
        refine lv_iload_n hx hb d_Law_law_276 rfl (lv_at hl 3 rfl) ?_
        refine lv_iconst (v := 1) hx hb d_Law_law_277 (by decide) ?_
        refine lv_iadd hx hb d_Law_law_278 ?_
        refine va_sld hx hb hX hbl hbA hS v1 d_Law_law_279 ?_
        refine lv_aload_n hx hb d_Law_law_280 rfl (lv_at hl 0 rfl) ?_
        refine lv_iload_n hx hb d_Law_law_281 rfl (lv_at hl 3 rfl) ?_
        refine lv_iconst (v := 2) hx hb d_Law_law_282 (by decide) ?_
        refine lv_iadd hx hb d_Law_law_283 ?_
        refine va_sld hx hb hX hbl hbA hS v2 d_Law_law_284 ?_
        refine k_lawV (As := [.int (xs ((nI i) + 1).toNatClampNeg), .int (xs ((nI i) + 2).toNatClampNeg)]) (rest := [.int r]) (C := "ScriptDeskModel") (ci := 7) ZM_ok ⟨hx, hb, hml, hown, hts⟩ hK hZM hA (sd_CF_swap hI) (mt_Model_byteOf_r0 l hqM) (cwV 2 hts (gd_V tw_788 tw_789 tw_790 tw_9 tw_791) rfl rfl rfl (by decide +kernel) ⟨Nat.le_of_ble_eq_true rfl, Nat.le_of_ble_eq_true rfl⟩) 0 rfl rfl rfl hl.1 rfl (Nat.le_of_ble_eq_true rfl) d_Law_law_285 ⟨Nat.le_of_ble_eq_true rfl, Nat.le_of_ble_eq_true rfl⟩ (fun H locs hn hI => ?_)
        have hS := hI.2.2.2.2.2
        refine lv_icmp_eq (tgt := 316) hx hb d_Law_law_288 (by decide) (fun hc => ?_) (fun hc => absurd rfl hc)
        exact NEXT _ _ _ _ hR' (sd_CF_swap hI)
      by_cases c9 : cd = 9
      · refine k_tbl (off := 261) (tgt := 293) hx hb d_Law_law_32 (by decide) (by rw [c9]; decide) (by decide) ?_
        obtain ⟨r, μ', ν', hqX, hqM, hR'⟩ := (hsim μ ν hR).2.2.2.2.2.2.2.2.2 (xs ((nI i) + 1).toNatClampNeg)
        refine lv_aload_n hx hb d_Law_law_293 rfl (lv_at hl 1 rfl) ?_
        refine lv_aload_n hx hb d_Law_law_294 rfl (lv_at hl 0 rfl) ?_
        refine lv_iload_n hx hb d_Law_law_295 rfl (lv_at hl 3 rfl) ?_
        refine lv_iconst (v := 1) hx hb d_Law_law_296 (by decide) ?_
        refine lv_iadd hx hb d_Law_law_297 ?_
        refine va_sld hx hb hX hbl hbA hS v1 d_Law_law_298 ?_
        refine k_lawV (As := [.int (xs ((nI i) + 1).toNatClampNeg)]) (rest := []) (C := "ScriptDesk") (ci := 0) ZX_ok ⟨hx, hb, hml, hown, hts⟩ hK hZX hA hI (mt_Desk_count_r0 l hqX) (cwV 1 hts (gd_V tw_521 tw_522 tw_523 tw_1 tw_524) rfl rfl rfl (by decide +kernel) ⟨Nat.le_of_ble_eq_true rfl, Nat.le_of_ble_eq_true rfl⟩) 0 rfl rfl rfl hl.1 rfl (Nat.le_of_ble_eq_true rfl) d_Law_law_299 ⟨Nat.le_of_ble_eq_true rfl, Nat.le_of_ble_eq_true rfl⟩ (fun H locs hn hI => ?_)
        have hS := hI.2.2.2.2.2
        refine lv_aload_n hx hb d_Law_law_302 rfl (lv_at hl 2 rfl) ?_
        refine lv_aload_n hx hb d_Law_law_303 rfl (lv_at hl 0 rfl) ?_
        refine lv_iload_n hx hb d_Law_law_304 rfl (lv_at hl 3 rfl) ?_
        refine lv_iconst (v := 1) hx hb d_Law_law_305 (by decide) ?_
        refine lv_iadd hx hb d_Law_law_306 ?_
        refine va_sld hx hb hX hbl hbA hS v1 d_Law_law_307 ?_
        refine k_lawV (As := [.int (xs ((nI i) + 1).toNatClampNeg)]) (rest := [.int r]) (C := "ScriptDeskModel") (ci := 7) ZM_ok ⟨hx, hb, hml, hown, hts⟩ hK hZM hA (sd_CF_swap hI) (mt_Model_count_r0 l hqM) (cwV 1 hts (gd_V tw_792 tw_793 tw_794 tw_9 tw_795) rfl rfl rfl (by decide +kernel) ⟨Nat.le_of_ble_eq_true rfl, Nat.le_of_ble_eq_true rfl⟩) 0 rfl rfl rfl hl.1 rfl (Nat.le_of_ble_eq_true rfl) d_Law_law_308 ⟨Nat.le_of_ble_eq_true rfl, Nat.le_of_ble_eq_true rfl⟩ (fun H locs hn hI => ?_)
        have hS := hI.2.2.2.2.2
        refine lv_icmp_eq (tgt := 316) hx hb d_Law_law_311 (by decide) (fun hc => ?_) (fun hc => absurd rfl hc)
        exact NEXT _ _ _ _ hR' (sd_CF_swap hI)
      refine k_tbl (off := 284) (tgt := 316) hx hb d_Law_law_32 (by decide) (k_tbld [0, 1, 2, 3, 4, 5, 6, 7, 8, 9] (by decide) (by
          intro k hk
          simp only [List.mem_cons, List.not_mem_nil, or_false] at hk
          rcases hk with rfl | rfl | rfl | rfl | rfl | rfl | rfl | rfl | rfl | rfl
          · exact c0
          · exact c1
          · exact c2
          · exact c3
          · exact c4
          · exact c5
          · exact c6
          · exact c7
          · exact c8
          · exact c9
          )) (by decide) ?_
      exact NEXT _ _ _ _ hR hI
