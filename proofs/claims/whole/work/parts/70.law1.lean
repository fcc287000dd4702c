/-! ===== the law ===== -/
abbrev mL (nm : String) : MR := (⟨RL, nm, "([I)Z"⟩, cL_law, 4, some .boolean)
def QL : Post := fun r _ _ => r = some (.int 1)
theorem wl_sloadN {M : MR} {sx : Scr} {d mc ms n0 : Nat} {Q : Post} {pc np : Nat} {L st : List Value} {sh : List Shp} {me : Mem} {cs sl : Nat} {z j Lx : Nat} {i : Int32} (hd : decode M.2.1 pc = .ok (.iaload, 1)) (hn : pc + 1 = np) (hz : sx.1 = Lx + 1) (hb0 : sh.length ≤ 999999) (hi : i = nI j) (hj : j < Lx) (hL : Lx ≤ 1000) (k : Wa M sx d mc ms n0 Q np L (.int (sx.2 j) :: st) sh me cs sl) : Wa M sx d mc ms n0 Q pc L (.int i :: .retAddr z :: st) sh me cs sl := by
  subst hi
  have e : sx.1 - 1 = Lx := by omega
  refine wl_sload hd hn (by omega) hb0 (by rw [e]; exact vp_in_nI hj (by omega)) ?_
  rw [nI_clamp (by omega)]
  exact k
section LAW
variable {sh : List Shp} {me : Mem} {S : St} {nm : String} {sx : Scr} {Lx k : Nat}
set_option maxHeartbeats 4000000 in
set_option maxRecDepth 100000 in
theorem law_0 (hI : InvL sh me S k) (hsx : sx.1 = Lx + 1) (hL : Lx ≤ 384) (h6 : 6 * k + 6 ≤ Lx) (kc : ∀ m S', InvL sh m S' (k + 1) → Wa (mL nm) sx 20 600000 7302249 0 QL 1174 [.retAddr 0, .ref 0, .ref 136, .int (nI (6 * k))] [] sh m 600000 7302249) : Wa (mL nm) sx 20 600000 7302249 0 QL 160 [.retAddr 0, .ref 0, .ref 136, .int (nI (6 * k))] [] sh me 600000 7302249 := by
  obtain ⟨hFC, hFM, hRC, hRM, hok, hb0⟩ := id hI
  have z0 := hFC.1
  have z1 := hFM.1
  refine ld_a1 (np := 161) dL_law_160 rfl ?_
  refine ldS_a0 (np := 162) dL_law_161 rfl ?_
  refine ld_i3 (np := 163) dL_law_162 rfl ?_
  refine wl_iconst (np := 164) (v := 1) dL_law_163 rfl (rfl) ?_
  refine wl_iadd (np := 165) dL_law_164 rfl ?_
  refine wl_sloadN (np := 166) dL_law_165 rfl hsx hb0 (by first | (simp only [nIm, nIa, ← nI_succ]; exact rfl) | exact nI_z | exact nI_o | exact rfl) (by omega) (by omega) ?_
  refine ldS_a0 (np := 167) dL_law_166 rfl ?_
  refine ld_i3 (np := 168) dL_law_167 rfl ?_
  refine wl_iconst (np := 169) (v := nI 2) dL_law_168 rfl (rfl) ?_
  refine wl_iadd (np := 170) dL_law_169 rfl ?_
  refine wl_sloadN (np := 171) dL_law_170 rfl hsx hb0 (by first | (simp only [nIm, nIa, ← nI_succ]; exact rfl) | exact nI_z | exact nI_o | exact rfl) (by omega) (by omega) ?_
  refine ldS_a0 (np := 172) dL_law_171 rfl ?_
  refine ld_i3 (np := 173) dL_law_172 rfl ?_
  refine wl_iconst (np := 174) (v := nI 3) dL_law_173 rfl (rfl) ?_
  refine wl_iadd (np := 175) dL_law_174 rfl ?_
  refine wl_sloadN (np := 176) dL_law_175 rfl hsx hb0 (by first | (simp only [nIm, nIa, ← nI_succ]; exact rfl) | exact nI_z | exact nI_o | exact rfl) (by omega) (by omega) ?_
  refine ciV_3 (np := 179) dL_law_176 rfl lk_L_13 (by assumption) (Nat.le_of_ble_eq_true rfl) (by omega) (Nat.le_refl _) (Nat.le_refl _) (c_dc_person _ _ _ hFC hRC (by omega)) (fun x_176 m_176 h_176 => ?_)
  obtain ⟨rfl, g1⟩ := h_176
  obtain ⟨hFM1, hRM1⟩ := g1.toM hFM hRM
  refine ld_a2 (np := 180) dL_law_179 rfl ?_
  refine ldS_a0 (np := 181) dL_law_180 rfl ?_
  refine ld_i3 (np := 182) dL_law_181 rfl ?_
  refine wl_iconst (np := 183) (v := 1) dL_law_182 rfl (rfl) ?_
  refine wl_iadd (np := 184) dL_law_183 rfl ?_
  refine wl_sloadN (np := 185) dL_law_184 rfl hsx hb0 (by first | (simp only [nIm, nIa, ← nI_succ]; exact rfl) | exact nI_z | exact nI_o | exact rfl) (by omega) (by omega) ?_
  refine ldS_a0 (np := 186) dL_law_185 rfl ?_
  refine ld_i3 (np := 187) dL_law_186 rfl ?_
  refine wl_iconst (np := 188) (v := nI 2) dL_law_187 rfl (rfl) ?_
  refine wl_iadd (np := 189) dL_law_188 rfl ?_
  refine wl_sloadN (np := 190) dL_law_189 rfl hsx hb0 (by first | (simp only [nIm, nIa, ← nI_succ]; exact rfl) | exact nI_z | exact nI_o | exact rfl) (by omega) (by omega) ?_
  refine ldS_a0 (np := 191) dL_law_190 rfl ?_
  refine ld_i3 (np := 192) dL_law_191 rfl ?_
  refine wl_iconst (np := 193) (v := nI 3) dL_law_192 rfl (rfl) ?_
  refine wl_iadd (np := 194) dL_law_193 rfl ?_
  refine wl_sloadN (np := 195) dL_law_194 rfl hsx hb0 (by first | (simp only [nIm, nIa, ← nI_succ]; exact rfl) | exact nI_z | exact nI_o | exact rfl) (by omega) (by omega) ?_
  refine ciV_3 (np := 198) dL_law_195 rfl lk_L_17 (by assumption) (Nat.le_of_ble_eq_true rfl) (by omega) (Nat.le_refl _) (Nat.le_refl _) (c_M_person _ _ _ hFM1 hRM1 (by omega)) (fun x_195 m_195 h_195 => ?_)
  obtain ⟨rfl, g2⟩ := h_195
  have hI2 := inv_next hI g1 g2 (ok_person hok _ _ _)
  refine wl_icmp_eq (np := 201) (tg := 1174) dL_law_198 rfl rfl (fun c_198 => ?_) (fun c_198 => ?_)
  · exact kc _ _ hI2
  · exact absurd rfl c_198
set_option maxHeartbeats 4000000 in
set_option maxRecDepth 100000 in
theorem law_1 (hI : InvL sh me S k) (hsx : sx.1 = Lx + 1) (hL : Lx ≤ 384) (h6 : 6 * k + 6 ≤ Lx) (kc : ∀ m S', InvL sh m S' (k + 1) → Wa (mL nm) sx 20 600000 7302249 0 QL 1174 [.retAddr 0, .ref 0, .ref 136, .int (nI (6 * k))] [] sh m 600000 7302249) : Wa (mL nm) sx 20 600000 7302249 0 QL 203 [.retAddr 0, .ref 0, .ref 136, .int (nI (6 * k))] [] sh me 600000 7302249 := by
  obtain ⟨hFC, hFM, hRC, hRM, hok, hb0⟩ := id hI
  have z0 := hFC.1
  have z1 := hFM.1
  refine ld_a1 (np := 204) dL_law_203 rfl ?_
  refine ldS_a0 (np := 205) dL_law_204 rfl ?_
  refine ld_i3 (np := 206) dL_law_205 rfl ?_
  refine wl_iconst (np := 207) (v := 1) dL_law_206 rfl (rfl) ?_
  refine wl_iadd (np := 208) dL_law_207 rfl ?_
  refine wl_sloadN (np := 209) dL_law_208 rfl hsx hb0 (by first | (simp only [nIm, nIa, ← nI_succ]; exact rfl) | exact nI_z | exact nI_o | exact rfl) (by omega) (by omega) ?_
  refine ldS_a0 (np := 210) dL_law_209 rfl ?_
  refine ld_i3 (np := 211) dL_law_210 rfl ?_
  refine wl_iconst (np := 212) (v := nI 2) dL_law_211 rfl (rfl) ?_
  refine wl_iadd (np := 213) dL_law_212 rfl ?_
  refine wl_sloadN (np := 214) dL_law_213 rfl hsx hb0 (by first | (simp only [nIm, nIa, ← nI_succ]; exact rfl) | exact nI_z | exact nI_o | exact rfl) (by omega) (by omega) ?_
  refine ciV_2 (np := 217) dL_law_214 rfl lk_L_18 (by assumption) (Nat.le_of_ble_eq_true rfl) (by omega) (Nat.le_refl _) (Nat.le_refl _) (c_dc_of _ _ hFC hRC (by omega)) (fun x_214 m_214 h_214 => ?_)
  obtain ⟨rfl, g1⟩ := h_214
  obtain ⟨hFM1, hRM1⟩ := g1.toM hFM hRM
  refine ld_a2 (np := 218) dL_law_217 rfl ?_
  refine ldS_a0 (np := 219) dL_law_218 rfl ?_
  refine ld_i3 (np := 220) dL_law_219 rfl ?_
  refine wl_iconst (np := 221) (v := 1) dL_law_220 rfl (rfl) ?_
  refine wl_iadd (np := 222) dL_law_221 rfl ?_
  refine wl_sloadN (np := 223) dL_law_222 rfl hsx hb0 (by first | (simp only [nIm, nIa, ← nI_succ]; exact rfl) | exact nI_z | exact nI_o | exact rfl) (by omega) (by omega) ?_
  refine ldS_a0 (np := 224) dL_law_223 rfl ?_
  refine ld_i3 (np := 225) dL_law_224 rfl ?_
  refine wl_iconst (np := 226) (v := nI 2) dL_law_225 rfl (rfl) ?_
  refine wl_iadd (np := 227) dL_law_226 rfl ?_
  refine wl_sloadN (np := 228) dL_law_227 rfl hsx hb0 (by first | (simp only [nIm, nIa, ← nI_succ]; exact rfl) | exact nI_z | exact nI_o | exact rfl) (by omega) (by omega) ?_
  refine ciV_2 (np := 231) dL_law_228 rfl lk_L_22 (by assumption) (Nat.le_of_ble_eq_true rfl) (by omega) (Nat.le_refl _) (Nat.le_refl _) (c_M_of _ _ hFM1 hRM1 (by omega)) (fun x_228 m_228 h_228 => ?_)
  obtain ⟨rfl, g2⟩ := h_228
  have hI2 := inv_next hI g1 g2 (ok_of hok _ _)
  refine wl_icmp_eq (np := 234) (tg := 1174) dL_law_231 rfl rfl (fun c_231 => ?_) (fun c_231 => ?_)
  · exact kc _ _ hI2
  · exact absurd rfl c_231
set_option maxHeartbeats 4000000 in
set_option maxRecDepth 100000 in
theorem law_2 (hI : InvL sh me S k) (hsx : sx.1 = Lx + 1) (hL : Lx ≤ 384) (h6 : 6 * k + 6 ≤ Lx) (kc : ∀ m S', InvL sh m S' (k + 1) → Wa (mL nm) sx 20 600000 7302249 0 QL 1174 [.retAddr 0, .ref 0, .ref 136, .int (nI (6 * k))] [] sh m 600000 7302249) : Wa (mL nm) sx 20 600000 7302249 0 QL 236 [.retAddr 0, .ref 0, .ref 136, .int (nI (6 * k))] [] sh me 600000 7302249 := by
  obtain ⟨hFC, hFM, hRC, hRM, hok, hb0⟩ := id hI
  have z0 := hFC.1
  have z1 := hFM.1
  refine ld_a1 (np := 237) dL_law_236 rfl ?_
  refine ldS_a0 (np := 238) dL_law_237 rfl ?_
  refine ld_i3 (np := 239) dL_law_238 rfl ?_
  refine wl_iconst (np := 240) (v := 1) dL_law_239 rfl (rfl) ?_
  refine wl_iadd (np := 241) dL_law_240 rfl ?_
  refine wl_sloadN (np := 242) dL_law_241 rfl hsx hb0 (by first | (simp only [nIm, nIa, ← nI_succ]; exact rfl) | exact nI_z | exact nI_o | exact rfl) (by omega) (by omega) ?_
  refine ldS_a0 (np := 243) dL_law_242 rfl ?_
  refine ld_i3 (np := 244) dL_law_243 rfl ?_
  refine wl_iconst (np := 245) (v := nI 2) dL_law_244 rfl (rfl) ?_
  refine wl_iadd (np := 246) dL_law_245 rfl ?_
  refine wl_sloadN (np := 247) dL_law_246 rfl hsx hb0 (by first | (simp only [nIm, nIa, ← nI_succ]; exact rfl) | exact nI_z | exact nI_o | exact rfl) (by omega) (by omega) ?_
  refine ldS_a0 (np := 248) dL_law_247 rfl ?_
  refine ld_i3 (np := 249) dL_law_248 rfl ?_
  refine wl_iconst (np := 250) (v := nI 3) dL_law_249 rfl (rfl) ?_
  refine wl_iadd (np := 251) dL_law_250 rfl ?_
  refine wl_sloadN (np := 252) dL_law_251 rfl hsx hb0 (by first | (simp only [nIm, nIa, ← nI_succ]; exact rfl) | exact nI_z | exact nI_o | exact rfl) (by omega) (by omega) ?_
  refine ciV_3 (np := 255) dL_law_252 rfl lk_L_23 (by assumption) (Nat.le_of_ble_eq_true rfl) (by omega) (Nat.le_refl _) (Nat.le_refl _) (c_dc_coat _ _ _ hFC hRC (by omega)) (fun x_252 m_252 h_252 => ?_)
  obtain ⟨rfl, g1⟩ := h_252
  obtain ⟨hFM1, hRM1⟩ := g1.toM hFM hRM
  refine ld_a2 (np := 256) dL_law_255 rfl ?_
  refine ldS_a0 (np := 257) dL_law_256 rfl ?_
  refine ld_i3 (np := 258) dL_law_257 rfl ?_
  refine wl_iconst (np := 259) (v := 1) dL_law_258 rfl (rfl) ?_
  refine wl_iadd (np := 260) dL_law_259 rfl ?_
  refine wl_sloadN (np := 261) dL_law_260 rfl hsx hb0 (by first | (simp only [nIm, nIa, ← nI_succ]; exact rfl) | exact nI_z | exact nI_o | exact rfl) (by omega) (by omega) ?_
  refine ldS_a0 (np := 262) dL_law_261 rfl ?_
  refine ld_i3 (np := 263) dL_law_262 rfl ?_
  refine wl_iconst (np := 264) (v := nI 2) dL_law_263 rfl (rfl) ?_
  refine wl_iadd (np := 265) dL_law_264 rfl ?_
  refine wl_sloadN (np := 266) dL_law_265 rfl hsx hb0 (by first | (simp only [nIm, nIa, ← nI_succ]; exact rfl) | exact nI_z | exact nI_o | exact rfl) (by omega) (by omega) ?_
  refine ldS_a0 (np := 267) dL_law_266 rfl ?_
  refine ld_i3 (np := 268) dL_law_267 rfl ?_
  refine wl_iconst (np := 269) (v := nI 3) dL_law_268 rfl (rfl) ?_
  refine wl_iadd (np := 270) dL_law_269 rfl ?_
  refine wl_sloadN (np := 271) dL_law_270 rfl hsx hb0 (by first | (simp only [nIm, nIa, ← nI_succ]; exact rfl) | exact nI_z | exact nI_o | exact rfl) (by omega) (by omega) ?_
  refine ciV_3 (np := 274) dL_law_271 rfl lk_L_26 (by assumption) (Nat.le_of_ble_eq_true rfl) (by omega) (Nat.le_refl _) (Nat.le_refl _) (c_M_coat _ _ _ hFM1 hRM1 (by omega)) (fun x_271 m_271 h_271 => ?_)
  obtain ⟨rfl, g2⟩ := h_271
  have hI2 := inv_next hI g1 g2 (ok_coat hok _ _ _)
  refine wl_icmp_eq (np := 277) (tg := 1174) dL_law_274 rfl rfl (fun c_274 => ?_) (fun c_274 => ?_)
  · exact kc _ _ hI2
  · exact absurd rfl c_274
set_option maxHeartbeats 4000000 in
set_option maxRecDepth 100000 in
theorem law_3 (hI : InvL sh me S k) (hsx : sx.1 = Lx + 1) (hL : Lx ≤ 384) (h6 : 6 * k + 6 ≤ Lx) (kc : ∀ m S', InvL sh m S' (k + 1) → Wa (mL nm) sx 20 600000 7302249 0 QL 1174 [.retAddr 0, .ref 0, .ref 136, .int (nI (6 * k))] [] sh m 600000 7302249) : Wa (mL nm) sx 20 600000 7302249 0 QL 279 [.retAddr 0, .ref 0, .ref 136, .int (nI (6 * k))] [] sh me 600000 7302249 := by
  obtain ⟨hFC, hFM, hRC, hRM, hok, hb0⟩ := id hI
  have z0 := hFC.1
  have z1 := hFM.1
  refine ld_a1 (np := 280) dL_law_279 rfl ?_
  refine ldS_a0 (np := 281) dL_law_280 rfl ?_
  refine ld_i3 (np := 282) dL_law_281 rfl ?_
  refine wl_iconst (np := 283) (v := 1) dL_law_282 rfl (rfl) ?_
  refine wl_iadd (np := 284) dL_law_283 rfl ?_
  refine wl_sloadN (np := 285) dL_law_284 rfl hsx hb0 (by first | (simp only [nIm, nIa, ← nI_succ]; exact rfl) | exact nI_z | exact nI_o | exact rfl) (by omega) (by omega) ?_
  refine ldS_a0 (np := 286) dL_law_285 rfl ?_
  refine ld_i3 (np := 287) dL_law_286 rfl ?_
  refine wl_iconst (np := 288) (v := nI 2) dL_law_287 rfl (rfl) ?_
  refine wl_iadd (np := 289) dL_law_288 rfl ?_
  refine wl_sloadN (np := 290) dL_law_289 rfl hsx hb0 (by first | (simp only [nIm, nIa, ← nI_succ]; exact rfl) | exact nI_z | exact nI_o | exact rfl) (by omega) (by omega) ?_
  refine ldS_a0 (np := 291) dL_law_290 rfl ?_
  refine ld_i3 (np := 292) dL_law_291 rfl ?_
  refine wl_iconst (np := 293) (v := nI 3) dL_law_292 rfl (rfl) ?_
  refine wl_iadd (np := 294) dL_law_293 rfl ?_
  refine wl_sloadN (np := 295) dL_law_294 rfl hsx hb0 (by first | (simp only [nIm, nIa, ← nI_succ]; exact rfl) | exact nI_z | exact nI_o | exact rfl) (by omega) (by omega) ?_
  refine ciV_3 (np := 298) dL_law_295 rfl lk_L_27 (by assumption) (Nat.le_of_ble_eq_true rfl) (by omega) (Nat.le_refl _) (Nat.le_refl _) (c_dc_tax _ _ _ hFC hRC (by omega)) (fun x_295 m_295 h_295 => ?_)
  obtain ⟨rfl, g1⟩ := h_295
  obtain ⟨hFM1, hRM1⟩ := g1.toM hFM hRM
  refine ld_a2 (np := 299) dL_law_298 rfl ?_
  refine ldS_a0 (np := 300) dL_law_299 rfl ?_
  refine ld_i3 (np := 301) dL_law_300 rfl ?_
  refine wl_iconst (np := 302) (v := 1) dL_law_301 rfl (rfl) ?_
  refine wl_iadd (np := 303) dL_law_302 rfl ?_
  refine wl_sloadN (np := 304) dL_law_303 rfl hsx hb0 (by first | (simp only [nIm, nIa, ← nI_succ]; exact rfl) | exact nI_z | exact nI_o | exact rfl) (by omega) (by omega) ?_
  refine ldS_a0 (np := 305) dL_law_304 rfl ?_
  refine ld_i3 (np := 306) dL_law_305 rfl ?_
  refine wl_iconst (np := 307) (v := nI 2) dL_law_306 rfl (rfl) ?_
  refine wl_iadd (np := 308) dL_law_307 rfl ?_
  refine wl_sloadN (np := 309) dL_law_308 rfl hsx hb0 (by first | (simp only [nIm, nIa, ← nI_succ]; exact rfl) | exact nI_z | exact nI_o | exact rfl) (by omega) (by omega) ?_
  refine ldS_a0 (np := 310) dL_law_309 rfl ?_
  refine ld_i3 (np := 311) dL_law_310 rfl ?_
  refine wl_iconst (np := 312) (v := nI 3) dL_law_311 rfl (rfl) ?_
  refine wl_iadd (np := 313) dL_law_312 rfl ?_
  refine wl_sloadN (np := 314) dL_law_313 rfl hsx hb0 (by first | (simp only [nIm, nIa, ← nI_succ]; exact rfl) | exact nI_z | exact nI_o | exact rfl) (by omega) (by omega) ?_
  refine ciV_3 (np := 317) dL_law_314 rfl lk_L_30 (by assumption) (Nat.le_of_ble_eq_true rfl) (by omega) (Nat.le_refl _) (Nat.le_refl _) (c_M_tax _ _ _ hFM1 hRM1 (by omega)) (fun x_314 m_314 h_314 => ?_)
  obtain ⟨rfl, g2⟩ := h_314
  have hI2 := inv_next hI g1 g2 (ok_tax hok _ _ _)
  refine wl_icmp_eq (np := 320) (tg := 1174) dL_law_317 rfl rfl (fun c_317 => ?_) (fun c_317 => ?_)
  · exact kc _ _ hI2
  · exact absurd rfl c_317
set_option maxHeartbeats 4000000 in
set_option maxRecDepth 100000 in
theorem law_4 (hI : InvL sh me S k) (hsx : sx.1 = Lx + 1) (hL : Lx ≤ 384) (h6 : 6 * k + 6 ≤ Lx) (kc : ∀ m S', InvL sh m S' (k + 1) → Wa (mL nm) sx 20 600000 7302249 0 QL 1174 [.retAddr 0, .ref 0, .ref 136, .int (nI (6 * k))] [] sh m 600000 7302249) : Wa (mL nm) sx 20 600000 7302249 0 QL 322 [.retAddr 0, .ref 0, .ref 136, .int (nI (6 * k))] [] sh me 600000 7302249 := by
  obtain ⟨hFC, hFM, hRC, hRM, hok, hb0⟩ := id hI
  have z0 := hFC.1
  have z1 := hFM.1
  refine ld_a1 (np := 323) dL_law_322 rfl ?_
  refine ldS_a0 (np := 324) dL_law_323 rfl ?_
  refine ld_i3 (np := 325) dL_law_324 rfl ?_
  refine wl_iconst (np := 326) (v := 1) dL_law_325 rfl (rfl) ?_
  refine wl_iadd (np := 327) dL_law_326 rfl ?_
  refine wl_sloadN (np := 328) dL_law_327 rfl hsx hb0 (by first | (simp only [nIm, nIa, ← nI_succ]; exact rfl) | exact nI_z | exact nI_o | exact rfl) (by omega) (by omega) ?_
  refine ldS_a0 (np := 329) dL_law_328 rfl ?_
  refine ld_i3 (np := 330) dL_law_329 rfl ?_
  refine wl_iconst (np := 331) (v := nI 2) dL_law_330 rfl (rfl) ?_
  refine wl_iadd (np := 332) dL_law_331 rfl ?_
  refine wl_sloadN (np := 333) dL_law_332 rfl hsx hb0 (by first | (simp only [nIm, nIa, ← nI_succ]; exact rfl) | exact nI_z | exact nI_o | exact rfl) (by omega) (by omega) ?_
  refine ciV_2 (np := 336) dL_law_333 rfl lk_L_31 (by assumption) (Nat.le_of_ble_eq_true rfl) (by omega) (Nat.le_refl _) (Nat.le_refl _) (c_dc_heat _ _ hFC hRC (by omega)) (fun x_333 m_333 h_333 => ?_)
  obtain ⟨rfl, g1⟩ := h_333
  obtain ⟨hFM1, hRM1⟩ := g1.toM hFM hRM
  refine ld_a2 (np := 337) dL_law_336 rfl ?_
  refine ldS_a0 (np := 338) dL_law_337 rfl ?_
  refine ld_i3 (np := 339) dL_law_338 rfl ?_
  refine wl_iconst (np := 340) (v := 1) dL_law_339 rfl (rfl) ?_
  refine wl_iadd (np := 341) dL_law_340 rfl ?_
  refine wl_sloadN (np := 342) dL_law_341 rfl hsx hb0 (by first | (simp only [nIm, nIa, ← nI_succ]; exact rfl) | exact nI_z | exact nI_o | exact rfl) (by omega) (by omega) ?_
  refine ldS_a0 (np := 343) dL_law_342 rfl ?_
  refine ld_i3 (np := 344) dL_law_343 rfl ?_
  refine wl_iconst (np := 345) (v := nI 2) dL_law_344 rfl (rfl) ?_
  refine wl_iadd (np := 346) dL_law_345 rfl ?_
  refine wl_sloadN (np := 347) dL_law_346 rfl hsx hb0 (by first | (simp only [nIm, nIa, ← nI_succ]; exact rfl) | exact nI_z | exact nI_o | exact rfl) (by omega) (by omega) ?_
  refine ciV_2 (np := 350) dL_law_347 rfl lk_L_34 (by assumption) (Nat.le_of_ble_eq_true rfl) (by omega) (Nat.le_refl _) (Nat.le_refl _) (c_M_heat _ _ hFM1 hRM1 (by omega)) (fun x_347 m_347 h_347 => ?_)
  obtain ⟨rfl, g2⟩ := h_347
  have hI2 := inv_next hI g1 g2 (ok_heat hok _ _)
  refine wl_icmp_eq (np := 353) (tg := 1174) dL_law_350 rfl rfl (fun c_350 => ?_) (fun c_350 => ?_)
  · exact kc _ _ hI2
  · exact absurd rfl c_350
set_option maxHeartbeats 4000000 in
set_option maxRecDepth 100000 in
theorem law_5 (hI : InvL sh me S k) (hsx : sx.1 = Lx + 1) (hL : Lx ≤ 384) (h6 : 6 * k + 6 ≤ Lx) (kc : ∀ m S', InvL sh m S' (k + 1) → Wa (mL nm) sx 20 600000 7302249 0 QL 1174 [.retAddr 0, .ref 0, .ref 136, .int (nI (6 * k))] [] sh m 600000 7302249) : Wa (mL nm) sx 20 600000 7302249 0 QL 355 [.retAddr 0, .ref 0, .ref 136, .int (nI (6 * k))] [] sh me 600000 7302249 := by
  obtain ⟨hFC, hFM, hRC, hRM, hok, hb0⟩ := id hI
  have z0 := hFC.1
  have z1 := hFM.1
  refine ld_a1 (np := 356) dL_law_355 rfl ?_
  refine ldS_a0 (np := 357) dL_law_356 rfl ?_
  refine ld_i3 (np := 358) dL_law_357 rfl ?_
  refine wl_iconst (np := 359) (v := 1) dL_law_358 rfl (rfl) ?_
  refine wl_iadd (np := 360) dL_law_359 rfl ?_
  refine wl_sloadN (np := 361) dL_law_360 rfl hsx hb0 (by first | (simp only [nIm, nIa, ← nI_succ]; exact rfl) | exact nI_z | exact nI_o | exact rfl) (by omega) (by omega) ?_
  refine ldS_a0 (np := 362) dL_law_361 rfl ?_
  refine ld_i3 (np := 363) dL_law_362 rfl ?_
  refine wl_iconst (np := 364) (v := nI 2) dL_law_363 rfl (rfl) ?_
  refine wl_iadd (np := 365) dL_law_364 rfl ?_
  refine wl_sloadN (np := 366) dL_law_365 rfl hsx hb0 (by first | (simp only [nIm, nIa, ← nI_succ]; exact rfl) | exact nI_z | exact nI_o | exact rfl) (by omega) (by omega) ?_
  refine ciV_2 (np := 369) dL_law_366 rfl lk_L_35 (by assumption) (Nat.le_of_ble_eq_true rfl) (by omega) (Nat.le_refl _) (Nat.le_refl _) (c_dc_rule _ _ hFC hRC (by omega)) (fun x_366 m_366 h_366 => ?_)
  obtain ⟨rfl, g1⟩ := h_366
  obtain ⟨hFM1, hRM1⟩ := g1.toM hFM hRM
  refine ld_a2 (np := 370) dL_law_369 rfl ?_
  refine ldS_a0 (np := 371) dL_law_370 rfl ?_
  refine ld_i3 (np := 372) dL_law_371 rfl ?_
  refine wl_iconst (np := 373) (v := 1) dL_law_372 rfl (rfl) ?_
  refine wl_iadd (np := 374) dL_law_373 rfl ?_
  refine wl_sloadN (np := 375) dL_law_374 rfl hsx hb0 (by first | (simp only [nIm, nIa, ← nI_succ]; exact rfl) | exact nI_z | exact nI_o | exact rfl) (by omega) (by omega) ?_
  refine ldS_a0 (np := 376) dL_law_375 rfl ?_
  refine ld_i3 (np := 377) dL_law_376 rfl ?_
  refine wl_iconst (np := 378) (v := nI 2) dL_law_377 rfl (rfl) ?_
  refine wl_iadd (np := 379) dL_law_378 rfl ?_
  refine wl_sloadN (np := 380) dL_law_379 rfl hsx hb0 (by first | (simp only [nIm, nIa, ← nI_succ]; exact rfl) | exact nI_z | exact nI_o | exact rfl) (by omega) (by omega) ?_
  refine ciV_2 (np := 383) dL_law_380 rfl lk_L_38 (by assumption) (Nat.le_of_ble_eq_true rfl) (by omega) (Nat.le_refl _) (Nat.le_refl _) (c_M_rule _ _ hFM1 hRM1 (by omega)) (fun x_380 m_380 h_380 => ?_)
  obtain ⟨rfl, g2⟩ := h_380
  have hI2 := inv_next hI g1 g2 (ok_rule hok _ _)
  refine wl_icmp_eq (np := 386) (tg := 1174) dL_law_383 rfl rfl (fun c_383 => ?_) (fun c_383 => ?_)
  · exact kc _ _ hI2
  · exact absurd rfl c_383
set_option maxHeartbeats 4000000 in
set_option maxRecDepth 100000 in
theorem law_6 (hI : InvL sh me S k) (hsx : sx.1 = Lx + 1) (hL : Lx ≤ 384) (h6 : 6 * k + 6 ≤ Lx) (kc : ∀ m S', InvL sh m S' (k + 1) → Wa (mL nm) sx 20 600000 7302249 0 QL 1174 [.retAddr 0, .ref 0, .ref 136, .int (nI (6 * k))] [] sh m 600000 7302249) : Wa (mL nm) sx 20 600000 7302249 0 QL 388 [.retAddr 0, .ref 0, .ref 136, .int (nI (6 * k))] [] sh me 600000 7302249 := by
  obtain ⟨hFC, hFM, hRC, hRM, hok, hb0⟩ := id hI
  have z0 := hFC.1
  have z1 := hFM.1
  refine ld_a1 (np := 389) dL_law_388 rfl ?_
  refine ldS_a0 (np := 390) dL_law_389 rfl ?_
  refine ld_i3 (np := 391) dL_law_390 rfl ?_
  refine wl_iconst (np := 392) (v := 1) dL_law_391 rfl (rfl) ?_
  refine wl_iadd (np := 393) dL_law_392 rfl ?_
  refine wl_sloadN (np := 394) dL_law_393 rfl hsx hb0 (by first | (simp only [nIm, nIa, ← nI_succ]; exact rfl) | exact nI_z | exact nI_o | exact rfl) (by omega) (by omega) ?_
  refine wl_i2l (np := 395) dL_law_394 rfl ?_
  refine wl_bipush (np := 397) (v := nI 32) dL_law_395 rfl (by decide) ?_
  refine wl_lshl (np := 398) dL_law_397 rfl ?_
  refine ldS_a0 (np := 399) dL_law_398 rfl ?_
  refine ld_i3 (np := 400) dL_law_399 rfl ?_
  refine wl_iconst (np := 401) (v := nI 2) dL_law_400 rfl (rfl) ?_
  refine wl_iadd (np := 402) dL_law_401 rfl ?_
  refine wl_sloadN (np := 403) dL_law_402 rfl hsx hb0 (by first | (simp only [nIm, nIa, ← nI_succ]; exact rfl) | exact nI_z | exact nI_o | exact rfl) (by omega) (by omega) ?_
  refine wl_i2l (np := 404) dL_law_403 rfl ?_
  refine wl_ldc2 (np := 407) dL_law_404 rfl wk_L_39 ?_
  refine wl_land (np := 408) dL_law_407 rfl ?_
  refine wl_lor (np := 409) dL_law_408 rfl ?_
  refine ldS_a0 (np := 410) dL_law_409 rfl ?_
  refine ld_i3 (np := 411) dL_law_410 rfl ?_
  refine wl_iconst (np := 412) (v := nI 3) dL_law_411 rfl (rfl) ?_
  refine wl_iadd (np := 413) dL_law_412 rfl ?_
  refine wl_sloadN (np := 414) dL_law_413 rfl hsx hb0 (by first | (simp only [nIm, nIa, ← nI_succ]; exact rfl) | exact nI_z | exact nI_o | exact rfl) (by omega) (by omega) ?_
  refine ciV_2 (np := 417) dL_law_414 rfl lk_L_41 (by assumption) (Nat.le_of_ble_eq_true rfl) (by omega) (Nat.le_refl _) (Nat.le_refl _) (c_dc_type _ _ hFC hRC (by omega)) (fun x_414 m_414 h_414 => ?_)
  obtain ⟨rfl, g1⟩ := h_414
  obtain ⟨hFM1, hRM1⟩ := g1.toM hFM hRM
  refine ld_a2 (np := 418) dL_law_417 rfl ?_
  refine ldS_a0 (np := 419) dL_law_418 rfl ?_
  refine ld_i3 (np := 420) dL_law_419 rfl ?_
  refine wl_iconst (np := 421) (v := 1) dL_law_420 rfl (rfl) ?_
  refine wl_iadd (np := 422) dL_law_421 rfl ?_
  refine wl_sloadN (np := 423) dL_law_422 rfl hsx hb0 (by first | (simp only [nIm, nIa, ← nI_succ]; exact rfl) | exact nI_z | exact nI_o | exact rfl) (by omega) (by omega) ?_
  refine wl_i2l (np := 424) dL_law_423 rfl ?_
  refine wl_bipush (np := 426) (v := nI 32) dL_law_424 rfl (by decide) ?_
  refine wl_lshl (np := 427) dL_law_426 rfl ?_
  refine ldS_a0 (np := 428) dL_law_427 rfl ?_
  refine ld_i3 (np := 429) dL_law_428 rfl ?_
  refine wl_iconst (np := 430) (v := nI 2) dL_law_429 rfl (rfl) ?_
  refine wl_iadd (np := 431) dL_law_430 rfl ?_
  refine wl_sloadN (np := 432) dL_law_431 rfl hsx hb0 (by first | (simp only [nIm, nIa, ← nI_succ]; exact rfl) | exact nI_z | exact nI_o | exact rfl) (by omega) (by omega) ?_
  refine wl_i2l (np := 433) dL_law_432 rfl ?_
  refine wl_ldc2 (np := 436) dL_law_433 rfl wk_L_39 ?_
  refine wl_land (np := 437) dL_law_436 rfl ?_
  refine wl_lor (np := 438) dL_law_437 rfl ?_
  refine ldS_a0 (np := 439) dL_law_438 rfl ?_
  refine ld_i3 (np := 440) dL_law_439 rfl ?_
  refine wl_iconst (np := 441) (v := nI 3) dL_law_440 rfl (rfl) ?_
  refine wl_iadd (np := 442) dL_law_441 rfl ?_
  refine wl_sloadN (np := 443) dL_law_442 rfl hsx hb0 (by first | (simp only [nIm, nIa, ← nI_succ]; exact rfl) | exact nI_z | exact nI_o | exact rfl) (by omega) (by omega) ?_
  refine ciV_2 (np := 446) dL_law_443 rfl lk_L_45 (by assumption) (Nat.le_of_ble_eq_true rfl) (by omega) (Nat.le_refl _) (Nat.le_refl _) (c_M_type _ _ hFM1 hRM1 (by omega)) (fun x_443 m_443 h_443 => ?_)
  obtain ⟨rfl, g2⟩ := h_443
  have hI2 := inv_next hI g1 g2 (ok_type hok _ _)
  refine wl_icmp_eq (np := 449) (tg := 1174) dL_law_446 rfl rfl (fun c_446 => ?_) (fun c_446 => ?_)
  · exact kc _ _ hI2
  · exact absurd rfl c_446
end LAW
