-- ===== the law: its cases =====
def Scr (E : Ev) (ba Ln : Nat) (xs : Nat → Int32) : Cx → Prop
  | (_, _, _, s, _, _, _, _, _, _, _) => va_X ba Ln xs s s.heap ∧ ba < s.heap.size ∧ ¬ wA E ba
section XL
variable {E : Ev} {d : Nat} {own : String} {b : ByteArray} {nL : Nat} {C : Cx} {pc : Nat} {L : List (Option Value)} {st : List Value} {M : PM} {ba Ln : Nat} {xs : Nat → Int32}
theorem x_sldN {k : Nat} (hs : Scr E ba Ln xs C) (hd : decode b pc = .ok (.iaload, 1)) (hk : k < Ln) (hL : Ln < 2147483648) (kk : X E d own b nL C (pc + 1) L (.int (xs k) :: st) M) : X E d own b nL C pc L (.int (nI k) :: .ref ba :: st) M := by
  obtain ⟨p, e, R, s, m, args, below, meth, c, cs, Q⟩ := C
  intro ok H locs ls hP hS hl
  exact va_sld ok.1 ok.2.1 hs.1 hs.2.1 hs.2.2 hS (vp_in_nI hk hL) hd (by rw [nI_clamp (by omega)]; exact kk ok H locs ls hP hS hl)
theorem x_slen (hs : Scr E ba Ln xs C) (hd : decode b pc = .ok (.arraylength, 1)) (kk : X E d own b nL C (pc + 1) L (.int (nI Ln) :: st) M) : X E d own b nL C pc L (.ref ba :: st) M := by
  obtain ⟨p, e, R, s, m, args, below, meth, c, cs, Q⟩ := C
  intro ok H locs ls hP hS hl
  exact va_slen ok.1 ok.2.1 hs.1 hs.2.1 hs.2.2 hS hd (kk ok H locs ls hP hS hl)
end XL
theorem lg_self {v : Int64} : lg_cmp v v = 0 := by unfold lg_cmp; simp
set_option maxHeartbeats 8000000 in
theorem lc_write {E : Ev} {C : Cx} {ba Ln i : Nat} {xs : Nat → Int32} {M : PM} (hs : Scr E ba Ln xs C) (hL : Ln ≤ 2560) (hi : i + 5 ≤ Ln) (hJ : J M) (ih : ∀ N, J N → X E 8 RL cL_law 4 C 930 [some (.ref ba), some (.ref (ad E 0)), some (.ref (ad E 40)), some (.int (nI i))] [] N) : X E 8 RL cL_law 4 C 156 [some (.ref ba), some (.ref (ad E 0)), some (.ref (ad E 40)), some (.int (nI i))] [] M := by
  obtain ⟨P, h8, hh⟩ := t_write (E := E) (M := M) (xs (i + 1)) hJ
  refine x_aload_n dL_law_156 rfl rfl ?_
  refine x_aload_n dL_law_157 rfl rfl ?_
  refine x_iload_n dL_law_158 rfl rfl ?_
  refine x_iconst (v := nI 1) dL_law_159 (by decide) ?_
  refine x_iaddN dL_law_160 ?_
  refine x_sldN hs dL_law_161 (by omega) (by omega) ?_
  refine x_callVi dL_law_162 mvX8_write kL_13 (h8) rfl (by decide) (by omega) rfl rfl (Nat.le_of_ble_eq_true rfl) ?_
  rintro v N hv
  obtain ⟨P', h9, hh2⟩ := hh v N hv
  refine x_aload_n dL_law_165 rfl rfl ?_
  refine x_aload_n dL_law_166 rfl rfl ?_
  refine x_iload_n dL_law_167 rfl rfl ?_
  refine x_iconst (v := nI 1) dL_law_168 (by decide) ?_
  refine x_iaddN dL_law_169 ?_
  refine x_sldN hs dL_law_170 (by omega) (by omega) ?_
  refine x_callVi dL_law_171 mvX9_write kL_17 (h9) rfl (by decide) (by omega) rfl rfl (Nat.le_of_ble_eq_true rfl) ?_
  rintro v' N' hv'
  obtain ⟨rfl, hJ'⟩ := hh2 v' N' hv'
  refine x_icmp_eq (tgt := 930) dL_law_174 (by decide) (fun hc => ?_) (fun hc => ?_)
  · exact ih N' hJ'
  · exact absurd rfl hc
set_option maxHeartbeats 8000000 in
theorem lc_wipe {E : Ev} {C : Cx} {ba Ln i : Nat} {xs : Nat → Int32} {M : PM} (hs : Scr E ba Ln xs C) (hL : Ln ≤ 2560) (hi : i + 5 ≤ Ln) (hJ : J M) (ih : ∀ N, J N → X E 8 RL cL_law 4 C 930 [some (.ref ba), some (.ref (ad E 0)), some (.ref (ad E 40)), some (.int (nI i))] [] N) : X E 8 RL cL_law 4 C 179 [some (.ref ba), some (.ref (ad E 0)), some (.ref (ad E 40)), some (.int (nI i))] [] M := by
  obtain ⟨P, h8, hh⟩ := t_wipe (E := E) (M := M) hJ
  refine x_aload_n dL_law_179 rfl rfl ?_
  refine x_callVi dL_law_180 mvX8_wipe kL_18 (h8) rfl (by decide) (by omega) rfl rfl (Nat.le_of_ble_eq_true rfl) ?_
  rintro v N hv
  obtain ⟨P', h9, hh2⟩ := hh v N hv
  refine x_aload_n dL_law_183 rfl rfl ?_
  refine x_callVi dL_law_184 mvX9_wipe kL_22 (h9) rfl (by decide) (by omega) rfl rfl (Nat.le_of_ble_eq_true rfl) ?_
  rintro v' N' hv'
  obtain ⟨rfl, hJ'⟩ := hh2 v' N' hv'
  refine x_icmp_eq (tgt := 930) dL_law_187 (by decide) (fun hc => ?_) (fun hc => ?_)
  · exact ih N' hJ'
  · exact absurd rfl hc
set_option maxHeartbeats 8000000 in
theorem lc_fault {E : Ev} {C : Cx} {ba Ln i : Nat} {xs : Nat → Int32} {M : PM} (hs : Scr E ba Ln xs C) (hL : Ln ≤ 2560) (hi : i + 5 ≤ Ln) (hJ : J M) (ih : ∀ N, J N → X E 8 RL cL_law 4 C 930 [some (.ref ba), some (.ref (ad E 0)), some (.ref (ad E 40)), some (.int (nI i))] [] N) : X E 8 RL cL_law 4 C 192 [some (.ref ba), some (.ref (ad E 0)), some (.ref (ad E 40)), some (.int (nI i))] [] M := by
  obtain ⟨P, h8, hh⟩ := t_fault (E := E) (M := M) hJ
  refine x_aload_n dL_law_192 rfl rfl ?_
  refine x_callVi dL_law_193 mvX8_fault kL_23 (h8) rfl (by decide) (by omega) rfl rfl (Nat.le_of_ble_eq_true rfl) ?_
  rintro v N hv
  obtain ⟨P', h9, hh2⟩ := hh v N hv
  refine x_aload_n dL_law_196 rfl rfl ?_
  refine x_callVi dL_law_197 mvX9_fault kL_26 (h9) rfl (by decide) (by omega) rfl rfl (Nat.le_of_ble_eq_true rfl) ?_
  rintro v' N' hv'
  obtain ⟨rfl, hJ'⟩ := hh2 v' N' hv'
  refine x_icmp_eq (tgt := 930) dL_law_200 (by decide) (fun hc => ?_) (fun hc => ?_)
  · exact ih N' hJ'
  · exact absurd rfl hc
set_option maxHeartbeats 8000000 in
theorem lc_family {E : Ev} {C : Cx} {ba Ln i : Nat} {xs : Nat → Int32} {M : PM} (hs : Scr E ba Ln xs C) (hL : Ln ≤ 2560) (hi : i + 5 ≤ Ln) (hJ : J M) (ih : ∀ N, J N → X E 8 RL cL_law 4 C 930 [some (.ref ba), some (.ref (ad E 0)), some (.ref (ad E 40)), some (.int (nI i))] [] N) : X E 8 RL cL_law 4 C 205 [some (.ref ba), some (.ref (ad E 0)), some (.ref (ad E 40)), some (.int (nI i))] [] M := by
  obtain ⟨P, h8, hh⟩ := t_family (E := E) (M := M) hJ
  refine x_aload_n dL_law_205 rfl rfl ?_
  refine x_callVi dL_law_206 mvX8_family kL_27 (h8) rfl (by decide) (by omega) rfl rfl (Nat.le_of_ble_eq_true rfl) ?_
  rintro v N hv
  obtain ⟨P', h9, hh2⟩ := hh v N hv
  refine x_aload_n dL_law_209 rfl rfl ?_
  refine x_callVi dL_law_210 mvX9_family kL_30 (h9) rfl (by decide) (by omega) rfl rfl (Nat.le_of_ble_eq_true rfl) ?_
  rintro v' N' hv'
  obtain ⟨rfl, hJ'⟩ := hh2 v' N' hv'
  refine x_icmp_eq (tgt := 930) dL_law_213 (by decide) (fun hc => ?_) (fun hc => ?_)
  · exact ih N' hJ'
  · exact absurd rfl hc
set_option maxHeartbeats 8000000 in
theorem lc_about {E : Ev} {C : Cx} {ba Ln i : Nat} {xs : Nat → Int32} {M : PM} (hs : Scr E ba Ln xs C) (hL : Ln ≤ 2560) (hi : i + 5 ≤ Ln) (hJ : J M) (ih : ∀ N, J N → X E 8 RL cL_law 4 C 930 [some (.ref ba), some (.ref (ad E 0)), some (.ref (ad E 40)), some (.int (nI i))] [] N) : X E 8 RL cL_law 4 C 218 [some (.ref ba), some (.ref (ad E 0)), some (.ref (ad E 40)), some (.int (nI i))] [] M := by
  obtain ⟨P, h8, hh⟩ := t_about (E := E) (M := M) (xs (i + 1)) hJ
  refine x_aload_n dL_law_218 rfl rfl ?_
  refine x_aload_n dL_law_219 rfl rfl ?_
  refine x_iload_n dL_law_220 rfl rfl ?_
  refine x_iconst (v := nI 1) dL_law_221 (by decide) ?_
  refine x_iaddN dL_law_222 ?_
  refine x_sldN hs dL_law_223 (by omega) (by omega) ?_
  refine x_callVi dL_law_224 mvX8_about kL_31 (h8) rfl (by decide) (by omega) rfl rfl (Nat.le_of_ble_eq_true rfl) ?_
  rintro v N hv
  obtain ⟨P', h9, hh2⟩ := hh v N hv
  refine x_aload_n dL_law_227 rfl rfl ?_
  refine x_aload_n dL_law_228 rfl rfl ?_
  refine x_iload_n dL_law_229 rfl rfl ?_
  refine x_iconst (v := nI 1) dL_law_230 (by decide) ?_
  refine x_iaddN dL_law_231 ?_
  refine x_sldN hs dL_law_232 (by omega) (by omega) ?_
  refine x_callVi dL_law_233 mvX9_about kL_34 (h9) rfl (by decide) (by omega) rfl rfl (Nat.le_of_ble_eq_true rfl) ?_
  rintro v' N' hv'
  obtain ⟨rfl, hJ'⟩ := hh2 v' N' hv'
  refine x_icmp_eq (tgt := 930) dL_law_236 (by decide) (fun hc => ?_) (fun hc => ?_)
  · exact ih N' hJ'
  · exact absurd rfl hc
set_option maxHeartbeats 8000000 in
theorem lc_cell {E : Ev} {C : Cx} {ba Ln i : Nat} {xs : Nat → Int32} {M : PM} (hs : Scr E ba Ln xs C) (hL : Ln ≤ 2560) (hi : i + 5 ≤ Ln) (hJ : J M) (ih : ∀ N, J N → X E 8 RL cL_law 4 C 930 [some (.ref ba), some (.ref (ad E 0)), some (.ref (ad E 40)), some (.int (nI i))] [] N) : X E 8 RL cL_law 4 C 241 [some (.ref ba), some (.ref (ad E 0)), some (.ref (ad E 40)), some (.int (nI i))] [] M := by
  obtain ⟨P, h8, hh⟩ := t_cell (E := E) (M := M) (xs (i + 1)) (xs (i + 2)) (xs (i + 3)) hJ
  refine x_aload_n dL_law_241 rfl rfl ?_
  refine x_aload_n dL_law_242 rfl rfl ?_
  refine x_iload_n dL_law_243 rfl rfl ?_
  refine x_iconst (v := nI 1) dL_law_244 (by decide) ?_
  refine x_iaddN dL_law_245 ?_
  refine x_sldN hs dL_law_246 (by omega) (by omega) ?_
  refine x_aload_n dL_law_247 rfl rfl ?_
  refine x_iload_n dL_law_248 rfl rfl ?_
  refine x_iconst (v := nI 2) dL_law_249 (by decide) ?_
  refine x_iaddN dL_law_250 ?_
  refine x_sldN hs dL_law_251 (by omega) (by omega) ?_
  refine x_aload_n dL_law_252 rfl rfl ?_
  refine x_iload_n dL_law_253 rfl rfl ?_
  refine x_iconst (v := nI 3) dL_law_254 (by decide) ?_
  refine x_iaddN dL_law_255 ?_
  refine x_sldN hs dL_law_256 (by omega) (by omega) ?_
  refine x_callVi dL_law_257 mvX8_cell kL_35 (h8) rfl (by decide) (by omega) rfl rfl (Nat.le_of_ble_eq_true rfl) ?_
  rintro v N hv
  obtain ⟨P', h9, hh2⟩ := hh v N hv
  refine x_aload_n dL_law_260 rfl rfl ?_
  refine x_aload_n dL_law_261 rfl rfl ?_
  refine x_iload_n dL_law_262 rfl rfl ?_
  refine x_iconst (v := nI 1) dL_law_263 (by decide) ?_
  refine x_iaddN dL_law_264 ?_
  refine x_sldN hs dL_law_265 (by omega) (by omega) ?_
  refine x_aload_n dL_law_266 rfl rfl ?_
  refine x_iload_n dL_law_267 rfl rfl ?_
  refine x_iconst (v := nI 2) dL_law_268 (by decide) ?_
  refine x_iaddN dL_law_269 ?_
  refine x_sldN hs dL_law_270 (by omega) (by omega) ?_
  refine x_aload_n dL_law_271 rfl rfl ?_
  refine x_iload_n dL_law_272 rfl rfl ?_
  refine x_iconst (v := nI 3) dL_law_273 (by decide) ?_
  refine x_iaddN dL_law_274 ?_
  refine x_sldN hs dL_law_275 (by omega) (by omega) ?_
  refine x_callVi dL_law_276 mvX9_cell kL_39 (h9) rfl (by decide) (by omega) rfl rfl (Nat.le_of_ble_eq_true rfl) ?_
  rintro v' N' hv'
  obtain ⟨rfl, hJ'⟩ := hh2 v' N' hv'
  refine x_icmp_eq (tgt := 930) dL_law_279 (by decide) (fun hc => ?_) (fun hc => ?_)
  · exact ih N' hJ'
  · exact absurd rfl hc
set_option maxHeartbeats 8000000 in
theorem lc_kin {E : Ev} {C : Cx} {ba Ln i : Nat} {xs : Nat → Int32} {M : PM} (hs : Scr E ba Ln xs C) (hL : Ln ≤ 2560) (hi : i + 5 ≤ Ln) (hJ : J M) (ih : ∀ N, J N → X E 8 RL cL_law 4 C 930 [some (.ref ba), some (.ref (ad E 0)), some (.ref (ad E 40)), some (.int (nI i))] [] N) : X E 8 RL cL_law 4 C 284 [some (.ref ba), some (.ref (ad E 0)), some (.ref (ad E 40)), some (.int (nI i))] [] M := by
  obtain ⟨P, h8, hh⟩ := t_kin (E := E) (M := M) (xs (i + 1)) (xs (i + 2)) hJ
  refine x_aload_n dL_law_284 rfl rfl ?_
  refine x_aload_n dL_law_285 rfl rfl ?_
  refine x_iload_n dL_law_286 rfl rfl ?_
  refine x_iconst (v := nI 1) dL_law_287 (by decide) ?_
  refine x_iaddN dL_law_288 ?_
  refine x_sldN hs dL_law_289 (by omega) (by omega) ?_
  refine x_aload_n dL_law_290 rfl rfl ?_
  refine x_iload_n dL_law_291 rfl rfl ?_
  refine x_iconst (v := nI 2) dL_law_292 (by decide) ?_
  refine x_iaddN dL_law_293 ?_
  refine x_sldN hs dL_law_294 (by omega) (by omega) ?_
  refine x_callVi dL_law_295 mvX8_kin kL_40 (h8) rfl (by decide) (by omega) rfl rfl (Nat.le_of_ble_eq_true rfl) ?_
  rintro v N hv
  obtain ⟨P', h9, hh2⟩ := hh v N hv
  refine x_aload_n dL_law_298 rfl rfl ?_
  refine x_aload_n dL_law_299 rfl rfl ?_
  refine x_iload_n dL_law_300 rfl rfl ?_
  refine x_iconst (v := nI 1) dL_law_301 (by decide) ?_
  refine x_iaddN dL_law_302 ?_
  refine x_sldN hs dL_law_303 (by omega) (by omega) ?_
  refine x_aload_n dL_law_304 rfl rfl ?_
  refine x_iload_n dL_law_305 rfl rfl ?_
  refine x_iconst (v := nI 2) dL_law_306 (by decide) ?_
  refine x_iaddN dL_law_307 ?_
  refine x_sldN hs dL_law_308 (by omega) (by omega) ?_
  refine x_callVi dL_law_309 mvX9_kin kL_44 (h9) rfl (by decide) (by omega) rfl rfl (Nat.le_of_ble_eq_true rfl) ?_
  rintro v' N' hv'
  obtain ⟨rfl, hJ'⟩ := hh2 v' N' hv'
  refine x_icmp_eq (tgt := 930) dL_law_312 (by decide) (fun hc => ?_) (fun hc => ?_)
  · exact ih N' hJ'
  · exact absurd rfl hc
set_option maxHeartbeats 8000000 in
theorem lc_has {E : Ev} {C : Cx} {ba Ln i : Nat} {xs : Nat → Int32} {M : PM} (hs : Scr E ba Ln xs C) (hL : Ln ≤ 2560) (hi : i + 5 ≤ Ln) (hJ : J M) (ih : ∀ N, J N → X E 8 RL cL_law 4 C 930 [some (.ref ba), some (.ref (ad E 0)), some (.ref (ad E 40)), some (.int (nI i))] [] N) : X E 8 RL cL_law 4 C 317 [some (.ref ba), some (.ref (ad E 0)), some (.ref (ad E 40)), some (.int (nI i))] [] M := by
  obtain ⟨P, h8, hh⟩ := t_has (E := E) (M := M) (xs (i + 1)) (xs (i + 2)) hJ
  refine x_aload_n dL_law_317 rfl rfl ?_
  refine x_aload_n dL_law_318 rfl rfl ?_
  refine x_iload_n dL_law_319 rfl rfl ?_
  refine x_iconst (v := nI 1) dL_law_320 (by decide) ?_
  refine x_iaddN dL_law_321 ?_
  refine x_sldN hs dL_law_322 (by omega) (by omega) ?_
  refine x_aload_n dL_law_323 rfl rfl ?_
  refine x_iload_n dL_law_324 rfl rfl ?_
  refine x_iconst (v := nI 2) dL_law_325 (by decide) ?_
  refine x_iaddN dL_law_326 ?_
  refine x_sldN hs dL_law_327 (by omega) (by omega) ?_
  refine x_callVi dL_law_328 mvX8_has kL_45 (h8) rfl (by decide) (by omega) rfl rfl (Nat.le_of_ble_eq_true rfl) ?_
  rintro v N hv
  obtain ⟨P', h9, hh2⟩ := hh v N hv
  refine x_aload_n dL_law_331 rfl rfl ?_
  refine x_aload_n dL_law_332 rfl rfl ?_
  refine x_iload_n dL_law_333 rfl rfl ?_
  refine x_iconst (v := nI 1) dL_law_334 (by decide) ?_
  refine x_iaddN dL_law_335 ?_
  refine x_sldN hs dL_law_336 (by omega) (by omega) ?_
  refine x_aload_n dL_law_337 rfl rfl ?_
  refine x_iload_n dL_law_338 rfl rfl ?_
  refine x_iconst (v := nI 2) dL_law_339 (by decide) ?_
  refine x_iaddN dL_law_340 ?_
  refine x_sldN hs dL_law_341 (by omega) (by omega) ?_
  refine x_callVi dL_law_342 mvX9_has kL_48 (h9) rfl (by decide) (by omega) rfl rfl (Nat.le_of_ble_eq_true rfl) ?_
  rintro v' N' hv'
  obtain ⟨rfl, hJ'⟩ := hh2 v' N' hv'
  refine x_icmp_eq (tgt := 930) dL_law_345 (by decide) (fun hc => ?_) (fun hc => ?_)
  · exact ih N' hJ'
  · exact absurd rfl hc
set_option maxHeartbeats 8000000 in
theorem lc_can {E : Ev} {C : Cx} {ba Ln i : Nat} {xs : Nat → Int32} {M : PM} (hs : Scr E ba Ln xs C) (hL : Ln ≤ 2560) (hi : i + 5 ≤ Ln) (hJ : J M) (ih : ∀ N, J N → X E 8 RL cL_law 4 C 930 [some (.ref ba), some (.ref (ad E 0)), some (.ref (ad E 40)), some (.int (nI i))] [] N) : X E 8 RL cL_law 4 C 350 [some (.ref ba), some (.ref (ad E 0)), some (.ref (ad E 40)), some (.int (nI i))] [] M := by
  obtain ⟨P, h8, hh⟩ := t_can (E := E) (M := M) (xs (i + 1)) hJ
  refine x_aload_n dL_law_350 rfl rfl ?_
  refine x_aload_n dL_law_351 rfl rfl ?_
  refine x_iload_n dL_law_352 rfl rfl ?_
  refine x_iconst (v := nI 1) dL_law_353 (by decide) ?_
  refine x_iaddN dL_law_354 ?_
  refine x_sldN hs dL_law_355 (by omega) (by omega) ?_
  refine x_callVi dL_law_356 mvX8_can kL_49 (h8) rfl (by decide) (by omega) rfl rfl (Nat.le_of_ble_eq_true rfl) ?_
  rintro v N hv
  obtain ⟨P', h9, hh2⟩ := hh v N hv
  refine x_aload_n dL_law_359 rfl rfl ?_
  refine x_aload_n dL_law_360 rfl rfl ?_
  refine x_iload_n dL_law_361 rfl rfl ?_
  refine x_iconst (v := nI 1) dL_law_362 (by decide) ?_
  refine x_iaddN dL_law_363 ?_
  refine x_sldN hs dL_law_364 (by omega) (by omega) ?_
  refine x_callVi dL_law_365 mvX9_can kL_52 (h9) rfl (by decide) (by omega) rfl rfl (Nat.le_of_ble_eq_true rfl) ?_
  rintro v' N' hv'
  obtain ⟨rfl, hJ'⟩ := hh2 v' N' hv'
  refine x_icmp_eq (tgt := 930) dL_law_368 (by decide) (fun hc => ?_) (fun hc => ?_)
  · exact ih N' hJ'
  · exact absurd rfl hc
set_option maxHeartbeats 8000000 in
theorem lc_draw {E : Ev} {C : Cx} {ba Ln i : Nat} {xs : Nat → Int32} {M : PM} (hs : Scr E ba Ln xs C) (hL : Ln ≤ 2560) (hi : i + 5 ≤ Ln) (hJ : J M) (ih : ∀ N, J N → X E 8 RL cL_law 4 C 930 [some (.ref ba), some (.ref (ad E 0)), some (.ref (ad E 40)), some (.int (nI i))] [] N) : X E 8 RL cL_law 4 C 373 [some (.ref ba), some (.ref (ad E 0)), some (.ref (ad E 40)), some (.int (nI i))] [] M := by
  obtain ⟨P, h8, hh⟩ := t_draw (E := E) (M := M) (xs (i + 1)) (xs (i + 2)) hJ
  refine x_aload_n dL_law_373 rfl rfl ?_
  refine x_aload_n dL_law_374 rfl rfl ?_
  refine x_iload_n dL_law_375 rfl rfl ?_
  refine x_iconst (v := nI 1) dL_law_376 (by decide) ?_
  refine x_iaddN dL_law_377 ?_
  refine x_sldN hs dL_law_378 (by omega) (by omega) ?_
  refine x_aload_n dL_law_379 rfl rfl ?_
  refine x_iload_n dL_law_380 rfl rfl ?_
  refine x_iconst (v := nI 2) dL_law_381 (by decide) ?_
  refine x_iaddN dL_law_382 ?_
  refine x_sldN hs dL_law_383 (by omega) (by omega) ?_
  refine x_callVi dL_law_384 mvX8_draw kL_53 (h8) rfl (by decide) (by omega) rfl rfl (Nat.le_of_ble_eq_true rfl) ?_
  rintro v N hv
  obtain ⟨P', h9, hh2⟩ := hh v N hv
  refine x_aload_n dL_law_387 rfl rfl ?_
  refine x_aload_n dL_law_388 rfl rfl ?_
  refine x_iload_n dL_law_389 rfl rfl ?_
  refine x_iconst (v := nI 1) dL_law_390 (by decide) ?_
  refine x_iaddN dL_law_391 ?_
  refine x_sldN hs dL_law_392 (by omega) (by omega) ?_
  refine x_aload_n dL_law_393 rfl rfl ?_
  refine x_iload_n dL_law_394 rfl rfl ?_
  refine x_iconst (v := nI 2) dL_law_395 (by decide) ?_
  refine x_iaddN dL_law_396 ?_
  refine x_sldN hs dL_law_397 (by omega) (by omega) ?_
  refine x_callVi dL_law_398 mvX9_draw kL_56 (h9) rfl (by decide) (by omega) rfl rfl (Nat.le_of_ble_eq_true rfl) ?_
  rintro v' N' hv'
  obtain ⟨rfl, hJ'⟩ := hh2 v' N' hv'
  refine x_icmp_eq (tgt := 930) dL_law_401 (by decide) (fun hc => ?_) (fun hc => ?_)
  · exact ih N' hJ'
  · exact absurd rfl hc
set_option maxHeartbeats 8000000 in
theorem lc_change {E : Ev} {C : Cx} {ba Ln i : Nat} {xs : Nat → Int32} {M : PM} (hs : Scr E ba Ln xs C) (hL : Ln ≤ 2560) (hi : i + 5 ≤ Ln) (hJ : J M) (ih : ∀ N, J N → X E 8 RL cL_law 4 C 930 [some (.ref ba), some (.ref (ad E 0)), some (.ref (ad E 40)), some (.int (nI i))] [] N) : X E 8 RL cL_law 4 C 406 [some (.ref ba), some (.ref (ad E 0)), some (.ref (ad E 40)), some (.int (nI i))] [] M := by
  obtain ⟨P, h8, hh⟩ := t_change (E := E) (M := M) (xs (i + 1)) hJ
  refine x_aload_n dL_law_406 rfl rfl ?_
  refine x_aload_n dL_law_407 rfl rfl ?_
  refine x_iload_n dL_law_408 rfl rfl ?_
  refine x_iconst (v := nI 1) dL_law_409 (by decide) ?_
  refine x_iaddN dL_law_410 ?_
  refine x_sldN hs dL_law_411 (by omega) (by omega) ?_
  refine x_callVi dL_law_412 mvX8_change kL_57 (h8) rfl (by decide) (by omega) rfl rfl (Nat.le_of_ble_eq_true rfl) ?_
  rintro v N hv
  obtain ⟨P', h9, hh2⟩ := hh v N hv
  refine x_aload_n dL_law_415 rfl rfl ?_
  refine x_aload_n dL_law_416 rfl rfl ?_
  refine x_iload_n dL_law_417 rfl rfl ?_
  refine x_iconst (v := nI 1) dL_law_418 (by decide) ?_
  refine x_iaddN dL_law_419 ?_
  refine x_sldN hs dL_law_420 (by omega) (by omega) ?_
  refine x_callVi dL_law_421 mvX9_change kL_60 (h9) rfl (by decide) (by omega) rfl rfl (Nat.le_of_ble_eq_true rfl) ?_
  rintro v' N' hv'
  obtain ⟨rfl, hJ'⟩ := hh2 v' N' hv'
  refine x_icmp_eq (tgt := 930) dL_law_424 (by decide) (fun hc => ?_) (fun hc => ?_)
  · exact ih N' hJ'
  · exact absurd rfl hc
set_option maxHeartbeats 8000000 in
theorem lc_join {E : Ev} {C : Cx} {ba Ln i : Nat} {xs : Nat → Int32} {M : PM} (hs : Scr E ba Ln xs C) (hL : Ln ≤ 2560) (hi : i + 5 ≤ Ln) (hJ : J M) (ih : ∀ N, J N → X E 8 RL cL_law 4 C 930 [some (.ref ba), some (.ref (ad E 0)), some (.ref (ad E 40)), some (.int (nI i))] [] N) : X E 8 RL cL_law 4 C 429 [some (.ref ba), some (.ref (ad E 0)), some (.ref (ad E 40)), some (.int (nI i))] [] M := by
  obtain ⟨P, h8, hh⟩ := t_join (E := E) (M := M) hJ
  refine x_aload_n dL_law_429 rfl rfl ?_
  refine x_callVi dL_law_430 mvX8_join kL_61 (h8) rfl (by decide) (by omega) rfl rfl (Nat.le_of_ble_eq_true rfl) ?_
  rintro v N hv
  obtain ⟨P', h9, hh2⟩ := hh v N hv
  refine x_aload_n dL_law_433 rfl rfl ?_
  refine x_callVi dL_law_434 mvX9_join kL_64 (h9) rfl (by decide) (by omega) rfl rfl (Nat.le_of_ble_eq_true rfl) ?_
  rintro v' N' hv'
  obtain ⟨rfl, hJ'⟩ := hh2 v' N' hv'
  refine x_icmp_eq (tgt := 930) dL_law_437 (by decide) (fun hc => ?_) (fun hc => ?_)
  · exact ih N' hJ'
  · exact absurd rfl hc
set_option maxHeartbeats 8000000 in
theorem lc_undo {E : Ev} {C : Cx} {ba Ln i : Nat} {xs : Nat → Int32} {M : PM} (hs : Scr E ba Ln xs C) (hL : Ln ≤ 2560) (hi : i + 5 ≤ Ln) (hJ : J M) (ih : ∀ N, J N → X E 8 RL cL_law 4 C 930 [some (.ref ba), some (.ref (ad E 0)), some (.ref (ad E 40)), some (.int (nI i))] [] N) : X E 8 RL cL_law 4 C 442 [some (.ref ba), some (.ref (ad E 0)), some (.ref (ad E 40)), some (.int (nI i))] [] M := by
  obtain ⟨P, h8, hh⟩ := t_undo (E := E) (M := M) hJ
  refine x_aload_n dL_law_442 rfl rfl ?_
  refine x_callVi dL_law_443 mvX8_undo kL_65 (h8) rfl (by decide) (by omega) rfl rfl (Nat.le_of_ble_eq_true rfl) ?_
  rintro v N hv
  obtain ⟨P', h9, hh2⟩ := hh v N hv
  refine x_aload_n dL_law_446 rfl rfl ?_
  refine x_callVi dL_law_447 mvX9_undo kL_68 (h9) rfl (by decide) (by omega) rfl rfl (Nat.le_of_ble_eq_true rfl) ?_
  rintro v' N' hv'
  obtain ⟨rfl, hJ'⟩ := hh2 v' N' hv'
  refine x_icmp_eq (tgt := 930) dL_law_450 (by decide) (fun hc => ?_) (fun hc => ?_)
  · exact ih N' hJ'
  · exact absurd rfl hc
set_option maxHeartbeats 8000000 in
theorem lc_best {E : Ev} {C : Cx} {ba Ln i : Nat} {xs : Nat → Int32} {M : PM} (hs : Scr E ba Ln xs C) (hL : Ln ≤ 2560) (hi : i + 5 ≤ Ln) (hJ : J M) (ih : ∀ N, J N → X E 8 RL cL_law 4 C 930 [some (.ref ba), some (.ref (ad E 0)), some (.ref (ad E 40)), some (.int (nI i))] [] N) : X E 8 RL cL_law 4 C 455 [some (.ref ba), some (.ref (ad E 0)), some (.ref (ad E 40)), some (.int (nI i))] [] M := by
  obtain ⟨P, h8, hh⟩ := t_best (E := E) (M := M) (xs (i + 1)) hJ
  refine x_aload_n dL_law_455 rfl rfl ?_
  refine x_aload_n dL_law_456 rfl rfl ?_
  refine x_iload_n dL_law_457 rfl rfl ?_
  refine x_iconst (v := nI 1) dL_law_458 (by decide) ?_
  refine x_iaddN dL_law_459 ?_
  refine x_sldN hs dL_law_460 (by omega) (by omega) ?_
  refine x_callVi dL_law_461 mvX8_best kL_69 (h8) rfl (by decide) (by omega) rfl rfl (Nat.le_of_ble_eq_true rfl) ?_
  rintro v N hv
  obtain ⟨P', h9, hh2⟩ := hh v N hv
  refine x_aload_n dL_law_464 rfl rfl ?_
  refine x_aload_n dL_law_465 rfl rfl ?_
  refine x_iload_n dL_law_466 rfl rfl ?_
  refine x_iconst (v := nI 1) dL_law_467 (by decide) ?_
  refine x_iaddN dL_law_468 ?_
  refine x_sldN hs dL_law_469 (by omega) (by omega) ?_
  refine x_callVi dL_law_470 mvX9_best kL_72 (h9) rfl (by decide) (by omega) rfl rfl (Nat.le_of_ble_eq_true rfl) ?_
  rintro v' N' hv'
  obtain ⟨rfl, hJ'⟩ := hh2 v' N' hv'
  refine x_icmp_eq (tgt := 930) dL_law_473 (by decide) (fun hc => ?_) (fun hc => ?_)
  · exact ih N' hJ'
  · exact absurd rfl hc
