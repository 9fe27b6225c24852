-- after: b6.dl
theorem ro_v (v : Option Value) : ((v.toList ++ ([] : List Value)).map fun v => v.category).sum ≤ 8 := by
  cases v with
  | none => exact Nat.le_of_ble_eq_true rfl
  | some x => cases x <;> exact Nat.le_of_ble_eq_true rfl
section CS
variable {E : EE} {X : XX} {Q : State → Prop} {n r b L : Nat} {xs : Nat → Int32} {u : Sto}
theorem cs_feed (C : LwX E X b L xs) (hr : 6 * r + 5 < L) (hn : n ≤ 100000) (hI : INV r u) (kk : ∀ t, INV (r + 1) t → G E X Q 7 (n + 1) 2669 (LSv E b r) [] t) : G E X Q 7 n 224 (LSv E b r) [] u := by
  have h := C.1
  have hL := C.2.2.2.1
  obtain ⟨T, W, pf, pc, tl, hI⟩ := hI
  obtain ⟨PC, c1, c2, c3⟩ := pr_feed (E := E) (by omega) hI (xs (6 * r + 1)) (xs (6 * r + 2)) (xs (6 * r + 3)) (xs (6 * r + 4)) (xs (6 * r + 5))
  refine g_aload_n h dL_law__224 rfl rfl ?_
  refine g_arg C (k := 1) hr (by decide) rfl rfl dL_law__225 dL_law__226 dL_law__228 dL_law__229 dL_law__230 (by decide) ?_
  refine g_arg C (k := 2) hr (by decide) rfl rfl dL_law__231 dL_law__232 dL_law__234 dL_law__235 dL_law__236 (by decide) ?_
  refine g_arg C (k := 3) hr (by decide) rfl rfl dL_law__237 dL_law__238 dL_law__240 dL_law__241 dL_law__242 (by decide) ?_
  refine g_arg C (k := 4) hr (by decide) rfl rfl dL_law__243 dL_law__244 dL_law__246 dL_law__247 dL_law__248 (by decide) ?_
  refine g_arg C (k := 5) hr (by decide) rfl rfl dL_law__249 dL_law__250 dL_law__252 dL_law__253 dL_law__254 (by decide) ?_
  refine g_VP h lv_L_123_X10 sh_0 (by decide) rfl c1 c2 (fitL C.2.2.2.2 (by decide) (by decide) (by omega)) rfl rfl (Nat.le_of_ble_eq_true rfl) dL_law__255 (fun v w hC => ?_)
  obtain ⟨PM, m1, m2⟩ := c3 _ w hC
  refine g_aload_n h dL_law__258 rfl rfl ?_
  refine g_arg C (k := 1) hr (by decide) rfl rfl dL_law__259 dL_law__260 dL_law__262 dL_law__263 dL_law__264 (by decide) ?_
  refine g_arg C (k := 2) hr (by decide) rfl rfl dL_law__265 dL_law__266 dL_law__268 dL_law__269 dL_law__270 (by decide) ?_
  refine g_arg C (k := 3) hr (by decide) rfl rfl dL_law__271 dL_law__272 dL_law__274 dL_law__275 dL_law__276 (by decide) ?_
  refine g_arg C (k := 4) hr (by decide) rfl rfl dL_law__277 dL_law__278 dL_law__280 dL_law__281 dL_law__282 (by decide) ?_
  refine g_arg C (k := 5) hr (by decide) rfl rfl dL_law__283 dL_law__284 dL_law__286 dL_law__287 dL_law__288 (by decide) ?_
  refine g_VP (rest := v.toList ++ []) h lv_L_127_X11 sh_178 (by decide) rfl m1 (fun Ex t h9 => by obtain ⟨_, _, _, e, _⟩ := m2 _ _ h9; cases e) (fitL C.2.2.2.2 (by decide) (by decide) (by omega)) rfl rfl (ro_v v) dL_law__289 (fun v2 t hM => ?_)
  obtain ⟨x, t', e1, e2, hin, hJ⟩ := m2 _ _ hM
  cases e1
  cases e2
  exact lw_tailD C dL_law__292 (by decide) (g_ran hin (g_more (Nat.le_succ _) (kk t' hJ)))
theorem cs_end (C : LwX E X b L xs) (hr : 6 * r + 5 < L) (hn : n ≤ 100000) (hI : INV r u) (kk : ∀ t, INV (r + 1) t → G E X Q 7 (n + 1) 2669 (LSv E b r) [] t) : G E X Q 7 n 297 (LSv E b r) [] u := by
  have h := C.1
  have hL := C.2.2.2.1
  obtain ⟨T, W, pf, pc, tl, hI⟩ := hI
  obtain ⟨PC, c1, c2, c3⟩ := pr_end (E := E) (by omega) hI (xs (6 * r + 1))
  refine g_aload_n h dL_law__297 rfl rfl ?_
  refine g_arg C (k := 1) hr (by decide) rfl rfl dL_law__298 dL_law__299 dL_law__301 dL_law__302 dL_law__303 (by decide) ?_
  refine g_VP h lv_L_128_X10 sh_0 (by decide) rfl c1 c2 (fitL C.2.2.2.2 (by decide) (by decide) (by omega)) rfl rfl (Nat.le_of_ble_eq_true rfl) dL_law__304 (fun v w hC => ?_)
  obtain ⟨PM, m1, m2⟩ := c3 _ w hC
  refine g_aload_n h dL_law__307 rfl rfl ?_
  refine g_arg C (k := 1) hr (by decide) rfl rfl dL_law__308 dL_law__309 dL_law__311 dL_law__312 dL_law__313 (by decide) ?_
  refine g_VP (rest := v.toList ++ []) h lv_L_132_X11 sh_178 (by decide) rfl m1 (fun Ex t h9 => by obtain ⟨_, _, _, e, _⟩ := m2 _ _ h9; cases e) (fitL C.2.2.2.2 (by decide) (by decide) (by omega)) rfl rfl (ro_v v) dL_law__314 (fun v2 t hM => ?_)
  obtain ⟨x, t', e1, e2, hin, hJ⟩ := m2 _ _ hM
  cases e1
  cases e2
  exact lw_tailD C dL_law__317 (by decide) (g_ran hin (g_more (Nat.le_succ _) (kk t' hJ)))
theorem cs_town (C : LwX E X b L xs) (hr : 6 * r + 5 < L) (hn : n ≤ 100000) (hI : INV r u) (hTp : u 183 = u 1) (kk : ∀ t, INV (r + 1) t → G E X Q 7 (n + 1) 2669 (LSv E b r) [] t) : G E X Q 7 n 322 (LSv E b r) [] u := by
  have h := C.1
  have hL := C.2.2.2.1
  obtain ⟨T, W, pf, pc, tl, hI⟩ := hI
  obtain ⟨PC, c1, c2, c3⟩ := pr_town (E := E) (by omega) hI hTp 
  refine g_aload_n h dL_law__322 rfl rfl ?_
  refine g_aload_n h dL_law__323 rfl rfl ?_
  refine g_SW h C.2.1 lw_L_133 (c_L_town  u c2 c1) hp_nx (fitL C.2.2.2.2 (by decide) (by decide) (by omega)) rfl rfl (Nat.le_of_ble_eq_true rfl) dL_law__324 (fun v w' hH => ?_)
  obtain ⟨o, w, k, hC, hw, rfl, hag⟩ := hp_un (by decide) c2 hH
  obtain ⟨PM, m1, m2⟩ := c3 o w w' hC hw
  refine g_istore (ls' := LS5 E b r k) h dL_law__327 (by decide) rfl rfl ?_
  refine g_aload_n h dL_law__329 rfl rfl ?_
  refine g_VP h lv_L_138_X11 sh_178 (by decide) rfl m1 (fun Ex t h9 => by obtain ⟨⟨_, _, e, _⟩, _⟩ := m2 _ _ h9; cases e) (fitL C.2.2.2.2 (by decide) (by decide) (by omega)) rfl rfl (Nat.le_of_ble_eq_true rfl) dL_law__330 (fun v2 t hM => ?_)
  obtain ⟨ha, h197⟩ := m2 _ _ hM
  obtain ⟨x, t', e, hin, hJ, h0, hv⟩ := hag _ _ _ ha h197
  cases e
  exact lw_tail C (by omega) dL_law__333 dL_law__335 dL_law__336 dL_law__339 dL_law__341 dL_law__346 dL_law__348 dL_law__351 dL_law__352 dL_law__353 dL_law__354 dL_law__356 dL_law__357 dL_law__358 dL_law__363 (by decide) h0 hv (g_ran hin (kk t' hJ))
theorem cs_law (C : LwX E X b L xs) (hr : 6 * r + 5 < L) (hn : n ≤ 100000) (hI : INV r u) (hTp : u 183 = u 1) (kk : ∀ t, INV (r + 1) t → G E X Q 7 (n + 1) 2669 (LSv E b r) [] t) : G E X Q 7 n 366 (LSv E b r) [] u := by
  have h := C.1
  have hL := C.2.2.2.1
  obtain ⟨T, W, pf, pc, tl, hI⟩ := hI
  obtain ⟨PC, c1, c2, c3⟩ := pr_law (E := E) (by omega) hI 
  refine g_aload_n h dL_law__366 rfl rfl ?_
  refine g_aload_n h dL_law__367 rfl rfl ?_
  refine g_SW h C.2.1 lw_L_142 (c_L_law  u c2 c1) hp_nx (fitL C.2.2.2.2 (by decide) (by decide) (by omega)) rfl rfl (Nat.le_of_ble_eq_true rfl) dL_law__368 (fun v w' hH => ?_)
  obtain ⟨o, w, k, hC, hw, rfl, hag⟩ := hp_un (by decide) c2 hH
  obtain ⟨PM, m1, m2⟩ := c3 o w w' hC hw
  refine g_istore (ls' := LS5 E b r k) h dL_law__371 (by decide) rfl rfl ?_
  refine g_aload_n h dL_law__373 rfl rfl ?_
  refine g_VP h lv_L_144_X11 sh_178 (by decide) rfl m1 (fun Ex t h9 => by obtain ⟨⟨_, _, e, _⟩, _⟩ := m2 _ _ h9; cases e) (fitL C.2.2.2.2 (by decide) (by decide) (by omega)) rfl rfl (Nat.le_of_ble_eq_true rfl) dL_law__374 (fun v2 t hM => ?_)
  obtain ⟨ha, h197⟩ := m2 _ _ hM
  obtain ⟨x, t', e, hin, hJ, h0, hv⟩ := hag _ _ _ ha h197
  cases e
  exact lw_tail C (by omega) dL_law__377 dL_law__379 dL_law__380 dL_law__383 dL_law__385 dL_law__390 dL_law__392 dL_law__395 dL_law__396 dL_law__397 dL_law__398 dL_law__400 dL_law__401 dL_law__402 dL_law__407 (by decide) h0 hv (g_ran hin (kk t' hJ))
theorem cs_fault (C : LwX E X b L xs) (hr : 6 * r + 5 < L) (hn : n ≤ 100000) (hI : INV r u) (kk : ∀ t, INV (r + 1) t → G E X Q 7 (n + 1) 2669 (LSv E b r) [] t) : G E X Q 7 n 410 (LSv E b r) [] u := by
  have h := C.1
  have hL := C.2.2.2.1
  obtain ⟨T, W, pf, pc, tl, hI⟩ := hI
  obtain ⟨PC, c1, c2, c3⟩ := pr_fault (E := E) (by omega) hI 
  refine g_aload_n h dL_law__410 rfl rfl ?_
  refine g_VP h lv_L_145_X10 sh_0 (by decide) rfl c1 c2 (fitL C.2.2.2.2 (by decide) (by decide) (by omega)) rfl rfl (Nat.le_of_ble_eq_true rfl) dL_law__411 (fun v w hC => ?_)
  obtain ⟨PM, m1, m2⟩ := c3 _ w hC
  refine g_aload_n h dL_law__414 rfl rfl ?_
  refine g_VP (rest := v.toList ++ []) h lv_L_148_X11 sh_178 (by decide) rfl m1 (fun Ex t h9 => by obtain ⟨_, _, _, e, _⟩ := m2 _ _ h9; cases e) (fitL C.2.2.2.2 (by decide) (by decide) (by omega)) rfl rfl (ro_v v) dL_law__415 (fun v2 t hM => ?_)
  obtain ⟨x, t', e1, e2, hin, hJ⟩ := m2 _ _ hM
  cases e1
  cases e2
  exact lw_tailD C dL_law__418 (by decide) (g_ran hin (g_more (Nat.le_succ _) (kk t' hJ)))
theorem cs_tenant (C : LwX E X b L xs) (hr : 6 * r + 5 < L) (hn : n ≤ 100000) (hI : INV r u) (hTp : u 183 = u 1) (kk : ∀ t, INV (r + 1) t → G E X Q 7 (n + 1) 2669 (LSv E b r) [] t) : G E X Q 7 n 423 (LSv E b r) [] u := by
  have h := C.1
  have hL := C.2.2.2.1
  obtain ⟨T, W, pf, pc, tl, hI⟩ := hI
  obtain ⟨PC, c1, c2, c3⟩ := pr_tenant (E := E) (by omega) hI (xs (6 * r + 1)) (xs (6 * r + 2))
  refine g_aload_n h dL_law__423 rfl rfl ?_
  refine g_arg C (k := 1) hr (by decide) rfl rfl dL_law__424 dL_law__425 dL_law__427 dL_law__428 dL_law__429 (by decide) ?_
  refine g_arg C (k := 2) hr (by decide) rfl rfl dL_law__430 dL_law__431 dL_law__433 dL_law__434 dL_law__435 (by decide) ?_
  refine g_aload_n h dL_law__436 rfl rfl ?_
  refine g_SW h C.2.1 lw_L_149 (c_L_tenant (xs (6 * r + 1)) (xs (6 * r + 2)) u c2 c1) hp_nx (fitL C.2.2.2.2 (by decide) (by decide) (by omega)) rfl rfl (Nat.le_of_ble_eq_true rfl) dL_law__437 (fun v w' hH => ?_)
  obtain ⟨o, w, k, hC, hw, rfl, hag⟩ := hp_un (by decide) c2 hH
  obtain ⟨PM, m1, m2⟩ := c3 o w w' hC hw
  refine g_istore (ls' := LS5 E b r k) h dL_law__440 (by decide) rfl rfl ?_
  refine g_aload_n h dL_law__442 rfl rfl ?_
  refine g_arg C (k := 1) hr (by decide) rfl rfl dL_law__443 dL_law__444 dL_law__446 dL_law__447 dL_law__448 (by decide) ?_
  refine g_arg C (k := 2) hr (by decide) rfl rfl dL_law__449 dL_law__450 dL_law__452 dL_law__453 dL_law__454 (by decide) ?_
  refine g_VP h lv_L_152_X11 sh_178 (by decide) rfl m1 (fun Ex t h9 => by obtain ⟨⟨_, _, e, _⟩, _⟩ := m2 _ _ h9; cases e) (fitL C.2.2.2.2 (by decide) (by decide) (by omega)) rfl rfl (Nat.le_of_ble_eq_true rfl) dL_law__455 (fun v2 t hM => ?_)
  obtain ⟨ha, h197⟩ := m2 _ _ hM
  obtain ⟨x, t', e, hin, hJ, h0, hv⟩ := hag _ _ _ ha h197
  cases e
  exact lw_tail C (by omega) dL_law__458 dL_law__460 dL_law__461 dL_law__464 dL_law__466 dL_law__471 dL_law__473 dL_law__476 dL_law__477 dL_law__478 dL_law__479 dL_law__481 dL_law__482 dL_law__483 dL_law__488 (by decide) h0 hv (g_ran hin (kk t' hJ))
theorem cs_room (C : LwX E X b L xs) (hr : 6 * r + 5 < L) (hn : n ≤ 100000) (hI : INV r u) (hTp : u 183 = u 1) (kk : ∀ t, INV (r + 1) t → G E X Q 7 (n + 1) 2669 (LSv E b r) [] t) : G E X Q 7 n 491 (LSv E b r) [] u := by
  have h := C.1
  have hL := C.2.2.2.1
  obtain ⟨T, W, pf, pc, tl, hI⟩ := hI
  obtain ⟨PC, c1, c2, c3⟩ := pr_room (E := E) (by omega) hI (xs (6 * r + 1)) (xs (6 * r + 2))
  refine g_aload_n h dL_law__491 rfl rfl ?_
  refine g_arg C (k := 1) hr (by decide) rfl rfl dL_law__492 dL_law__493 dL_law__495 dL_law__496 dL_law__497 (by decide) ?_
  refine g_arg C (k := 2) hr (by decide) rfl rfl dL_law__498 dL_law__499 dL_law__501 dL_law__502 dL_law__503 (by decide) ?_
  refine g_aload_n h dL_law__504 rfl rfl ?_
  refine g_SW h C.2.1 lw_L_153 (c_L_room (xs (6 * r + 1)) (xs (6 * r + 2)) u c2 c1) hp_nx (fitL C.2.2.2.2 (by decide) (by decide) (by omega)) rfl rfl (Nat.le_of_ble_eq_true rfl) dL_law__505 (fun v w' hH => ?_)
  obtain ⟨o, w, k, hC, hw, rfl, hag⟩ := hp_un (by decide) c2 hH
  obtain ⟨PM, m1, m2⟩ := c3 o w w' hC hw
  refine g_istore (ls' := LS5 E b r k) h dL_law__508 (by decide) rfl rfl ?_
  refine g_aload_n h dL_law__510 rfl rfl ?_
  refine g_arg C (k := 1) hr (by decide) rfl rfl dL_law__511 dL_law__512 dL_law__514 dL_law__515 dL_law__516 (by decide) ?_
  refine g_arg C (k := 2) hr (by decide) rfl rfl dL_law__517 dL_law__518 dL_law__520 dL_law__521 dL_law__522 (by decide) ?_
  refine g_VP h lv_L_155_X11 sh_178 (by decide) rfl m1 (fun Ex t h9 => by obtain ⟨⟨_, _, e, _⟩, _⟩ := m2 _ _ h9; cases e) (fitL C.2.2.2.2 (by decide) (by decide) (by omega)) rfl rfl (Nat.le_of_ble_eq_true rfl) dL_law__523 (fun v2 t hM => ?_)
  obtain ⟨ha, h197⟩ := m2 _ _ hM
  obtain ⟨x, t', e, hin, hJ, h0, hv⟩ := hag _ _ _ ha h197
  cases e
  exact lw_tail C (by omega) dL_law__526 dL_law__528 dL_law__529 dL_law__532 dL_law__534 dL_law__539 dL_law__541 dL_law__544 dL_law__545 dL_law__546 dL_law__547 dL_law__549 dL_law__550 dL_law__551 dL_law__556 (by decide) h0 hv (g_ran hin (kk t' hJ))
theorem cs_rule (C : LwX E X b L xs) (hr : 6 * r + 5 < L) (hn : n ≤ 100000) (hI : INV r u) (hTp : u 183 = u 1) (kk : ∀ t, INV (r + 1) t → G E X Q 7 (n + 1) 2669 (LSv E b r) [] t) : G E X Q 7 n 559 (LSv E b r) [] u := by
  have h := C.1
  have hL := C.2.2.2.1
  obtain ⟨T, W, pf, pc, tl, hI⟩ := hI
  obtain ⟨PC, c1, c2, c3⟩ := pr_rule (E := E) (by omega) hI (xs (6 * r + 1)) (xs (6 * r + 2)) (xs (6 * r + 3))
  refine g_aload_n h dL_law__559 rfl rfl ?_
  refine g_arg C (k := 1) hr (by decide) rfl rfl dL_law__560 dL_law__561 dL_law__563 dL_law__564 dL_law__565 (by decide) ?_
  refine g_arg C (k := 2) hr (by decide) rfl rfl dL_law__566 dL_law__567 dL_law__569 dL_law__570 dL_law__571 (by decide) ?_
  refine g_arg C (k := 3) hr (by decide) rfl rfl dL_law__572 dL_law__573 dL_law__575 dL_law__576 dL_law__577 (by decide) ?_
  refine g_aload_n h dL_law__578 rfl rfl ?_
  refine g_SW h C.2.1 lw_L_156 (c_L_rule (xs (6 * r + 1)) (xs (6 * r + 2)) (xs (6 * r + 3)) u c2 c1) hp_nx (fitL C.2.2.2.2 (by decide) (by decide) (by omega)) rfl rfl (Nat.le_of_ble_eq_true rfl) dL_law__579 (fun v w' hH => ?_)
  obtain ⟨o, w, k, hC, hw, rfl, hag⟩ := hp_un (by decide) c2 hH
  obtain ⟨PM, m1, m2⟩ := c3 o w w' hC hw
  refine g_istore (ls' := LS5 E b r k) h dL_law__582 (by decide) rfl rfl ?_
  refine g_aload_n h dL_law__584 rfl rfl ?_
  refine g_arg C (k := 1) hr (by decide) rfl rfl dL_law__585 dL_law__586 dL_law__588 dL_law__589 dL_law__590 (by decide) ?_
  refine g_arg C (k := 2) hr (by decide) rfl rfl dL_law__591 dL_law__592 dL_law__594 dL_law__595 dL_law__596 (by decide) ?_
  refine g_arg C (k := 3) hr (by decide) rfl rfl dL_law__597 dL_law__598 dL_law__600 dL_law__601 dL_law__602 (by decide) ?_
  refine g_VP h lv_L_159_X11 sh_178 (by decide) rfl m1 (fun Ex t h9 => by obtain ⟨⟨_, _, e, _⟩, _⟩ := m2 _ _ h9; cases e) (fitL C.2.2.2.2 (by decide) (by decide) (by omega)) rfl rfl (Nat.le_of_ble_eq_true rfl) dL_law__603 (fun v2 t hM => ?_)
  obtain ⟨ha, h197⟩ := m2 _ _ hM
  obtain ⟨x, t', e, hin, hJ, h0, hv⟩ := hag _ _ _ ha h197
  cases e
  exact lw_tail C (by omega) dL_law__606 dL_law__608 dL_law__609 dL_law__612 dL_law__614 dL_law__619 dL_law__621 dL_law__624 dL_law__625 dL_law__626 dL_law__627 dL_law__629 dL_law__630 dL_law__631 dL_law__636 (by decide) h0 hv (g_ran hin (kk t' hJ))
theorem cs_roomOf (C : LwX E X b L xs) (hr : 6 * r + 5 < L) (hn : n ≤ 100000) (hI : INV r u) (hTp : u 183 = u 1) (kk : ∀ t, INV (r + 1) t → G E X Q 7 (n + 1) 2669 (LSv E b r) [] t) : G E X Q 7 n 639 (LSv E b r) [] u := by
  have h := C.1
  have hL := C.2.2.2.1
  obtain ⟨T, W, pf, pc, tl, hI⟩ := hI
  obtain ⟨PC, c1, c2, c3⟩ := pr_roomOf (E := E) (by omega) hI (xs (6 * r + 1)) (xs (6 * r + 2)) (nz (xs (6 * r + 3)))
  refine g_aload_n h dL_law__639 rfl rfl ?_
  refine g_arg C (k := 1) hr (by decide) rfl rfl dL_law__640 dL_law__641 dL_law__643 dL_law__644 dL_law__645 (by decide) ?_
  refine g_arg C (k := 2) hr (by decide) rfl rfl dL_law__646 dL_law__647 dL_law__649 dL_law__650 dL_law__651 (by decide) ?_
  refine g_arg C (k := 3) hr (by decide) rfl rfl dL_law__652 dL_law__653 dL_law__655 dL_law__656 dL_law__657 (by decide) ?_
  refine g_nz C dL_law__658 dL_law__661 dL_law__662 dL_law__665 ?_
  refine g_aload_n h dL_law__666 rfl rfl ?_
  refine g_SW h C.2.1 lw_L_160 (c_L_roomOf (xs (6 * r + 1)) (xs (6 * r + 2)) (nz (xs (6 * r + 3))) u c2 c1) hp_nx (fitL C.2.2.2.2 (by decide) (by decide) (by omega)) rfl rfl (Nat.le_of_ble_eq_true rfl) dL_law__667 (fun v w' hH => ?_)
  obtain ⟨o, w, k, hC, hw, rfl, hag⟩ := hp_un (by decide) c2 hH
  obtain ⟨PM, m1, m2⟩ := c3 o w w' hC hw
  refine g_istore (ls' := LS5 E b r k) h dL_law__670 (by decide) rfl rfl ?_
  refine g_aload_n h dL_law__672 rfl rfl ?_
  refine g_arg C (k := 1) hr (by decide) rfl rfl dL_law__673 dL_law__674 dL_law__676 dL_law__677 dL_law__678 (by decide) ?_
  refine g_arg C (k := 2) hr (by decide) rfl rfl dL_law__679 dL_law__680 dL_law__682 dL_law__683 dL_law__684 (by decide) ?_
  refine g_arg C (k := 3) hr (by decide) rfl rfl dL_law__685 dL_law__686 dL_law__688 dL_law__689 dL_law__690 (by decide) ?_
  refine g_nz C dL_law__691 dL_law__694 dL_law__695 dL_law__698 ?_
  refine g_VP h lv_L_163_X11 sh_178 (by decide) rfl m1 (fun Ex t h9 => by obtain ⟨⟨_, _, e, _⟩, _⟩ := m2 _ _ h9; cases e) (fitL C.2.2.2.2 (by decide) (by decide) (by omega)) rfl rfl (Nat.le_of_ble_eq_true rfl) dL_law__699 (fun v2 t hM => ?_)
  obtain ⟨ha, h197⟩ := m2 _ _ hM
  obtain ⟨x, t', e, hin, hJ, h0, hv⟩ := hag _ _ _ ha h197
  cases e
  exact lw_tail C (by omega) dL_law__702 dL_law__704 dL_law__705 dL_law__708 dL_law__710 dL_law__715 dL_law__717 dL_law__720 dL_law__721 dL_law__722 dL_law__723 dL_law__725 dL_law__726 dL_law__727 dL_law__732 (by decide) h0 hv (g_ran hin (kk t' hJ))
theorem cs_take (C : LwX E X b L xs) (hr : 6 * r + 5 < L) (hn : n ≤ 100000) (hI : INV r u) (hTp : u 183 = u 1) (kk : ∀ t, INV (r + 1) t → G E X Q 7 (n + 1) 2669 (LSv E b r) [] t) : G E X Q 7 n 735 (LSv E b r) [] u := by
  have h := C.1
  have hL := C.2.2.2.1
  obtain ⟨T, W, pf, pc, tl, hI⟩ := hI
  obtain ⟨PC, c1, c2, c3⟩ := pr_take (E := E) (by omega) hI (xs (6 * r + 1)) (xs (6 * r + 2))
  refine g_aload_n h dL_law__735 rfl rfl ?_
  refine g_arg C (k := 1) hr (by decide) rfl rfl dL_law__736 dL_law__737 dL_law__739 dL_law__740 dL_law__741 (by decide) ?_
  refine g_arg C (k := 2) hr (by decide) rfl rfl dL_law__742 dL_law__743 dL_law__745 dL_law__746 dL_law__747 (by decide) ?_
  refine g_aload_n h dL_law__748 rfl rfl ?_
  refine g_SW h C.2.1 lw_L_164 (c_L_take (xs (6 * r + 1)) (xs (6 * r + 2)) u c2 c1) hp_nx (fitL C.2.2.2.2 (by decide) (by decide) (by omega)) rfl rfl (Nat.le_of_ble_eq_true rfl) dL_law__749 (fun v w' hH => ?_)
  obtain ⟨o, w, k, hC, hw, rfl, hag⟩ := hp_un (by decide) c2 hH
  obtain ⟨PM, m1, m2⟩ := c3 o w w' hC hw
  refine g_istore (ls' := LS5 E b r k) h dL_law__752 (by decide) rfl rfl ?_
  refine g_aload_n h dL_law__754 rfl rfl ?_
  refine g_arg C (k := 1) hr (by decide) rfl rfl dL_law__755 dL_law__756 dL_law__758 dL_law__759 dL_law__760 (by decide) ?_
  refine g_arg C (k := 2) hr (by decide) rfl rfl dL_law__761 dL_law__762 dL_law__764 dL_law__765 dL_law__766 (by decide) ?_
  refine g_VP h lv_L_166_X11 sh_178 (by decide) rfl m1 (fun Ex t h9 => by obtain ⟨⟨_, _, e, _⟩, _⟩ := m2 _ _ h9; cases e) (fitL C.2.2.2.2 (by decide) (by decide) (by omega)) rfl rfl (Nat.le_of_ble_eq_true rfl) dL_law__767 (fun v2 t hM => ?_)
  obtain ⟨ha, h197⟩ := m2 _ _ hM
  obtain ⟨x, t', e, hin, hJ, h0, hv⟩ := hag _ _ _ ha h197
  cases e
  exact lw_tail C (by omega) dL_law__770 dL_law__772 dL_law__773 dL_law__776 dL_law__778 dL_law__783 dL_law__785 dL_law__788 dL_law__789 dL_law__790 dL_law__791 dL_law__793 dL_law__794 dL_law__795 dL_law__800 (by decide) h0 hv (g_ran hin (kk t' hJ))
theorem cs_leave (C : LwX E X b L xs) (hr : 6 * r + 5 < L) (hn : n ≤ 100000) (hI : INV r u) (hTp : u 183 = u 1) (kk : ∀ t, INV (r + 1) t → G E X Q 7 (n + 1) 2669 (LSv E b r) [] t) : G E X Q 7 n 803 (LSv E b r) [] u := by
  have h := C.1
  have hL := C.2.2.2.1
  obtain ⟨T, W, pf, pc, tl, hI⟩ := hI
  obtain ⟨PC, c1, c2, c3⟩ := pr_leave (E := E) (by omega) hI (xs (6 * r + 1))
  refine g_aload_n h dL_law__803 rfl rfl ?_
  refine g_arg C (k := 1) hr (by decide) rfl rfl dL_law__804 dL_law__805 dL_law__807 dL_law__808 dL_law__809 (by decide) ?_
  refine g_aload_n h dL_law__810 rfl rfl ?_
  refine g_SW h C.2.1 lw_L_167 (c_L_leave (xs (6 * r + 1)) u c2 c1) hp_nx (fitL C.2.2.2.2 (by decide) (by decide) (by omega)) rfl rfl (Nat.le_of_ble_eq_true rfl) dL_law__811 (fun v w' hH => ?_)
  obtain ⟨o, w, k, hC, hw, rfl, hag⟩ := hp_un (by decide) c2 hH
  obtain ⟨PM, m1, m2⟩ := c3 o w w' hC hw
  refine g_istore (ls' := LS5 E b r k) h dL_law__814 (by decide) rfl rfl ?_
  refine g_aload_n h dL_law__816 rfl rfl ?_
  refine g_arg C (k := 1) hr (by decide) rfl rfl dL_law__817 dL_law__818 dL_law__820 dL_law__821 dL_law__822 (by decide) ?_
  refine g_VP h lv_L_170_X11 sh_178 (by decide) rfl m1 (fun Ex t h9 => by obtain ⟨⟨_, _, e, _⟩, _⟩ := m2 _ _ h9; cases e) (fitL C.2.2.2.2 (by decide) (by decide) (by omega)) rfl rfl (Nat.le_of_ble_eq_true rfl) dL_law__823 (fun v2 t hM => ?_)
  obtain ⟨ha, h197⟩ := m2 _ _ hM
  obtain ⟨x, t', e, hin, hJ, h0, hv⟩ := hag _ _ _ ha h197
  cases e
  exact lw_tail C (by omega) dL_law__826 dL_law__828 dL_law__829 dL_law__832 dL_law__834 dL_law__839 dL_law__841 dL_law__844 dL_law__845 dL_law__846 dL_law__847 dL_law__849 dL_law__850 dL_law__851 dL_law__856 (by decide) h0 hv (g_ran hin (kk t' hJ))
theorem cs_sublet (C : LwX E X b L xs) (hr : 6 * r + 5 < L) (hn : n ≤ 100000) (hI : INV r u) (hTp : u 183 = u 1) (kk : ∀ t, INV (r + 1) t → G E X Q 7 (n + 1) 2669 (LSv E b r) [] t) : G E X Q 7 n 859 (LSv E b r) [] u := by
  have h := C.1
  have hL := C.2.2.2.1
  obtain ⟨T, W, pf, pc, tl, hI⟩ := hI
  obtain ⟨PC, c1, c2, c3⟩ := pr_sublet (E := E) (by omega) hI (xs (6 * r + 1)) (xs (6 * r + 2)) (xs (6 * r + 3))
  refine g_aload_n h dL_law__859 rfl rfl ?_
  refine g_arg C (k := 1) hr (by decide) rfl rfl dL_law__860 dL_law__861 dL_law__863 dL_law__864 dL_law__865 (by decide) ?_
  refine g_arg C (k := 2) hr (by decide) rfl rfl dL_law__866 dL_law__867 dL_law__869 dL_law__870 dL_law__871 (by decide) ?_
  refine g_arg C (k := 3) hr (by decide) rfl rfl dL_law__872 dL_law__873 dL_law__875 dL_law__876 dL_law__877 (by decide) ?_
  refine g_aload_n h dL_law__878 rfl rfl ?_
  refine g_SW h C.2.1 lw_L_171 (c_L_sublet (xs (6 * r + 1)) (xs (6 * r + 2)) (xs (6 * r + 3)) u c2 c1) hp_nx (fitL C.2.2.2.2 (by decide) (by decide) (by omega)) rfl rfl (Nat.le_of_ble_eq_true rfl) dL_law__879 (fun v w' hH => ?_)
  obtain ⟨o, w, k, hC, hw, rfl, hag⟩ := hp_un (by decide) c2 hH
  obtain ⟨PM, m1, m2⟩ := c3 o w w' hC hw
  refine g_istore (ls' := LS5 E b r k) h dL_law__882 (by decide) rfl rfl ?_
  refine g_aload_n h dL_law__884 rfl rfl ?_
  refine g_arg C (k := 1) hr (by decide) rfl rfl dL_law__885 dL_law__886 dL_law__888 dL_law__889 dL_law__890 (by decide) ?_
  refine g_arg C (k := 2) hr (by decide) rfl rfl dL_law__891 dL_law__892 dL_law__894 dL_law__895 dL_law__896 (by decide) ?_
  refine g_arg C (k := 3) hr (by decide) rfl rfl dL_law__897 dL_law__898 dL_law__900 dL_law__901 dL_law__902 (by decide) ?_
  refine g_VP h lv_L_173_X11 sh_178 (by decide) rfl m1 (fun Ex t h9 => by obtain ⟨⟨_, _, e, _⟩, _⟩ := m2 _ _ h9; cases e) (fitL C.2.2.2.2 (by decide) (by decide) (by omega)) rfl rfl (Nat.le_of_ble_eq_true rfl) dL_law__903 (fun v2 t hM => ?_)
  obtain ⟨ha, h197⟩ := m2 _ _ hM
  obtain ⟨x, t', e, hin, hJ, h0, hv⟩ := hag _ _ _ ha h197
  cases e
  exact lw_tail C (by omega) dL_law__906 dL_law__908 dL_law__909 dL_law__912 dL_law__914 dL_law__919 dL_law__921 dL_law__924 dL_law__925 dL_law__926 dL_law__927 dL_law__929 dL_law__930 dL_law__931 dL_law__936 (by decide) h0 hv (g_ran hin (kk t' hJ))
theorem cs_ends (C : LwX E X b L xs) (hr : 6 * r + 5 < L) (hn : n ≤ 100000) (hI : INV r u) (hTp : u 183 = u 1) (kk : ∀ t, INV (r + 1) t → G E X Q 7 (n + 1) 2669 (LSv E b r) [] t) : G E X Q 7 n 939 (LSv E b r) [] u := by
  have h := C.1
  have hL := C.2.2.2.1
  obtain ⟨T, W, pf, pc, tl, hI⟩ := hI
  obtain ⟨PC, c1, c2, c3⟩ := pr_ends (E := E) (by omega) hI (xs (6 * r + 1))
  refine g_aload_n h dL_law__939 rfl rfl ?_
  refine g_arg C (k := 1) hr (by decide) rfl rfl dL_law__940 dL_law__941 dL_law__943 dL_law__944 dL_law__945 (by decide) ?_
  refine g_aload_n h dL_law__946 rfl rfl ?_
  refine g_SW h C.2.1 lw_L_174 (c_L_ends (xs (6 * r + 1)) u c2 c1) hp_nx (fitL C.2.2.2.2 (by decide) (by decide) (by omega)) rfl rfl (Nat.le_of_ble_eq_true rfl) dL_law__947 (fun v w' hH => ?_)
  obtain ⟨o, w, k, hC, hw, rfl, hag⟩ := hp_un (by decide) c2 hH
  obtain ⟨PM, m1, m2⟩ := c3 o w w' hC hw
  refine g_istore (ls' := LS5 E b r k) h dL_law__950 (by decide) rfl rfl ?_
  refine g_aload_n h dL_law__952 rfl rfl ?_
  refine g_arg C (k := 1) hr (by decide) rfl rfl dL_law__953 dL_law__954 dL_law__956 dL_law__957 dL_law__958 (by decide) ?_
  refine g_VP h lv_L_176_X11 sh_178 (by decide) rfl m1 (fun Ex t h9 => by obtain ⟨⟨_, _, e, _⟩, _⟩ := m2 _ _ h9; cases e) (fitL C.2.2.2.2 (by decide) (by decide) (by omega)) rfl rfl (Nat.le_of_ble_eq_true rfl) dL_law__959 (fun v2 t hM => ?_)
  obtain ⟨ha, h197⟩ := m2 _ _ hM
  obtain ⟨x, t', e, hin, hJ, h0, hv⟩ := hag _ _ _ ha h197
  cases e
  exact lw_tail C (by omega) dL_law__962 dL_law__964 dL_law__965 dL_law__968 dL_law__970 dL_law__975 dL_law__977 dL_law__980 dL_law__981 dL_law__982 dL_law__983 dL_law__985 dL_law__986 dL_law__987 dL_law__992 (by decide) h0 hv (g_ran hin (kk t' hJ))
theorem cs_evict (C : LwX E X b L xs) (hr : 6 * r + 5 < L) (hn : n ≤ 100000) (hI : INV r u) (hTp : u 183 = u 1) (kk : ∀ t, INV (r + 1) t → G E X Q 7 (n + 1) 2669 (LSv E b r) [] t) : G E X Q 7 n 995 (LSv E b r) [] u := by
  have h := C.1
  have hL := C.2.2.2.1
  obtain ⟨T, W, pf, pc, tl, hI⟩ := hI
  obtain ⟨PC, c1, c2, c3⟩ := pr_evict (E := E) (by omega) hI (xs (6 * r + 1))
  refine g_aload_n h dL_law__995 rfl rfl ?_
  refine g_arg C (k := 1) hr (by decide) rfl rfl dL_law__996 dL_law__997 dL_law__999 dL_law__1000 dL_law__1001 (by decide) ?_
  refine g_aload_n h dL_law__1002 rfl rfl ?_
  refine g_SW h C.2.1 lw_L_177 (c_L_evict (xs (6 * r + 1)) u c2 c1) hp_nx (fitL C.2.2.2.2 (by decide) (by decide) (by omega)) rfl rfl (Nat.le_of_ble_eq_true rfl) dL_law__1003 (fun v w' hH => ?_)
  obtain ⟨o, w, k, hC, hw, rfl, hag⟩ := hp_un (by decide) c2 hH
  obtain ⟨PM, m1, m2⟩ := c3 o w w' hC hw
  refine g_istore (ls' := LS5 E b r k) h dL_law__1006 (by decide) rfl rfl ?_
  refine g_aload_n h dL_law__1008 rfl rfl ?_
  refine g_arg C (k := 1) hr (by decide) rfl rfl dL_law__1009 dL_law__1010 dL_law__1012 dL_law__1013 dL_law__1014 (by decide) ?_
  refine g_VP h lv_L_179_X11 sh_178 (by decide) rfl m1 (fun Ex t h9 => by obtain ⟨⟨_, _, e, _⟩, _⟩ := m2 _ _ h9; cases e) (fitL C.2.2.2.2 (by decide) (by decide) (by omega)) rfl rfl (Nat.le_of_ble_eq_true rfl) dL_law__1015 (fun v2 t hM => ?_)
  obtain ⟨ha, h197⟩ := m2 _ _ hM
  obtain ⟨x, t', e, hin, hJ, h0, hv⟩ := hag _ _ _ ha h197
  cases e
  exact lw_tail C (by omega) dL_law__1018 dL_law__1020 dL_law__1021 dL_law__1024 dL_law__1026 dL_law__1031 dL_law__1033 dL_law__1036 dL_law__1037 dL_law__1038 dL_law__1039 dL_law__1041 dL_law__1042 dL_law__1043 dL_law__1048 (by decide) h0 hv (g_ran hin (kk t' hJ))
theorem cs_carry (C : LwX E X b L xs) (hr : 6 * r + 5 < L) (hn : n ≤ 100000) (hI : INV r u) (hTp : u 183 = u 1) (kk : ∀ t, INV (r + 1) t → G E X Q 7 (n + 1) 2669 (LSv E b r) [] t) : G E X Q 7 n 1051 (LSv E b r) [] u := by
  have h := C.1
  have hL := C.2.2.2.1
  obtain ⟨T, W, pf, pc, tl, hI⟩ := hI
  obtain ⟨PC, c1, c2, c3⟩ := pr_carry (E := E) (by omega) hI (xs (6 * r + 1)) (xs (6 * r + 2)) (xs (6 * r + 3)) (xs (6 * r + 4))
  refine g_aload_n h dL_law__1051 rfl rfl ?_
  refine g_arg C (k := 1) hr (by decide) rfl rfl dL_law__1052 dL_law__1053 dL_law__1055 dL_law__1056 dL_law__1057 (by decide) ?_
  refine g_arg C (k := 2) hr (by decide) rfl rfl dL_law__1058 dL_law__1059 dL_law__1061 dL_law__1062 dL_law__1063 (by decide) ?_
  refine g_arg C (k := 3) hr (by decide) rfl rfl dL_law__1064 dL_law__1065 dL_law__1067 dL_law__1068 dL_law__1069 (by decide) ?_
  refine g_arg C (k := 4) hr (by decide) rfl rfl dL_law__1070 dL_law__1071 dL_law__1073 dL_law__1074 dL_law__1075 (by decide) ?_
  refine g_aload_n h dL_law__1076 rfl rfl ?_
  refine g_SW h C.2.1 lw_L_180 (c_L_carry (xs (6 * r + 1)) (xs (6 * r + 2)) (xs (6 * r + 3)) (xs (6 * r + 4)) u c2 c1) hp_nx (fitL C.2.2.2.2 (by decide) (by decide) (by omega)) rfl rfl (Nat.le_of_ble_eq_true rfl) dL_law__1077 (fun v w' hH => ?_)
  obtain ⟨o, w, k, hC, hw, rfl, hag⟩ := hp_un (by decide) c2 hH
  obtain ⟨PM, m1, m2⟩ := c3 o w w' hC hw
  refine g_istore (ls' := LS5 E b r k) h dL_law__1080 (by decide) rfl rfl ?_
  refine g_aload_n h dL_law__1082 rfl rfl ?_
  refine g_arg C (k := 1) hr (by decide) rfl rfl dL_law__1083 dL_law__1084 dL_law__1086 dL_law__1087 dL_law__1088 (by decide) ?_
  refine g_arg C (k := 2) hr (by decide) rfl rfl dL_law__1089 dL_law__1090 dL_law__1092 dL_law__1093 dL_law__1094 (by decide) ?_
  refine g_arg C (k := 3) hr (by decide) rfl rfl dL_law__1095 dL_law__1096 dL_law__1098 dL_law__1099 dL_law__1100 (by decide) ?_
  refine g_arg C (k := 4) hr (by decide) rfl rfl dL_law__1101 dL_law__1102 dL_law__1104 dL_law__1105 dL_law__1106 (by decide) ?_
  refine g_VP h lv_L_183_X11 sh_178 (by decide) rfl m1 (fun Ex t h9 => by obtain ⟨⟨_, _, e, _⟩, _⟩ := m2 _ _ h9; cases e) (fitL C.2.2.2.2 (by decide) (by decide) (by omega)) rfl rfl (Nat.le_of_ble_eq_true rfl) dL_law__1107 (fun v2 t hM => ?_)
  obtain ⟨ha, h197⟩ := m2 _ _ hM
  obtain ⟨x, t', e, hin, hJ, h0, hv⟩ := hag _ _ _ ha h197
  cases e
  exact lw_tail C (by omega) dL_law__1110 dL_law__1112 dL_law__1113 dL_law__1116 dL_law__1118 dL_law__1123 dL_law__1125 dL_law__1128 dL_law__1129 dL_law__1130 dL_law__1131 dL_law__1133 dL_law__1134 dL_law__1135 dL_law__1140 (by decide) h0 hv (g_ran hin (kk t' hJ))
theorem cs_swap (C : LwX E X b L xs) (hr : 6 * r + 5 < L) (hn : n ≤ 100000) (hI : INV r u) (hTp : u 183 = u 1) (kk : ∀ t, INV (r + 1) t → G E X Q 7 (n + 1) 2669 (LSv E b r) [] t) : G E X Q 7 n 1143 (LSv E b r) [] u := by
  have h := C.1
  have hL := C.2.2.2.1
  obtain ⟨T, W, pf, pc, tl, hI⟩ := hI
  obtain ⟨PC, c1, c2, c3⟩ := pr_swap (E := E) (by omega) hI (xs (6 * r + 1)) (xs (6 * r + 2))
  refine g_aload_n h dL_law__1143 rfl rfl ?_
  refine g_arg C (k := 1) hr (by decide) rfl rfl dL_law__1144 dL_law__1145 dL_law__1147 dL_law__1148 dL_law__1149 (by decide) ?_
  refine g_arg C (k := 2) hr (by decide) rfl rfl dL_law__1150 dL_law__1151 dL_law__1153 dL_law__1154 dL_law__1155 (by decide) ?_
  refine g_aload_n h dL_law__1156 rfl rfl ?_
  refine g_SW h C.2.1 lw_L_184 (c_L_swap (xs (6 * r + 1)) (xs (6 * r + 2)) u c2 c1) hp_nx (fitL C.2.2.2.2 (by decide) (by decide) (by omega)) rfl rfl (Nat.le_of_ble_eq_true rfl) dL_law__1157 (fun v w' hH => ?_)
  obtain ⟨o, w, k, hC, hw, rfl, hag⟩ := hp_un (by decide) c2 hH
  obtain ⟨PM, m1, m2⟩ := c3 o w w' hC hw
  refine g_istore (ls' := LS5 E b r k) h dL_law__1160 (by decide) rfl rfl ?_
  refine g_aload_n h dL_law__1162 rfl rfl ?_
  refine g_arg C (k := 1) hr (by decide) rfl rfl dL_law__1163 dL_law__1164 dL_law__1166 dL_law__1167 dL_law__1168 (by decide) ?_
  refine g_arg C (k := 2) hr (by decide) rfl rfl dL_law__1169 dL_law__1170 dL_law__1172 dL_law__1173 dL_law__1174 (by decide) ?_
  refine g_VP h lv_L_186_X11 sh_178 (by decide) rfl m1 (fun Ex t h9 => by obtain ⟨⟨_, _, e, _⟩, _⟩ := m2 _ _ h9; cases e) (fitL C.2.2.2.2 (by decide) (by decide) (by omega)) rfl rfl (Nat.le_of_ble_eq_true rfl) dL_law__1175 (fun v2 t hM => ?_)
  obtain ⟨ha, h197⟩ := m2 _ _ hM
  obtain ⟨x, t', e, hin, hJ, h0, hv⟩ := hag _ _ _ ha h197
  cases e
  exact lw_tail C (by omega) dL_law__1178 dL_law__1180 dL_law__1181 dL_law__1184 dL_law__1186 dL_law__1191 dL_law__1193 dL_law__1196 dL_law__1197 dL_law__1198 dL_law__1199 dL_law__1201 dL_law__1202 dL_law__1203 dL_law__1208 (by decide) h0 hv (g_ran hin (kk t' hJ))
theorem cs_ticks (C : LwX E X b L xs) (hr : 6 * r + 5 < L) (hn : n ≤ 100000) (hI : INV r u) (hTp : u 183 = u 1) (kk : ∀ t, INV (r + 1) t → G E X Q 7 (n + 1) 2669 (LSv E b r) [] t) : G E X Q 7 n 1211 (LSv E b r) [] u := by
  have h := C.1
  have hL := C.2.2.2.1
  obtain ⟨T, W, pf, pc, tl, hI⟩ := hI
  obtain ⟨PC, c1, c2, c3⟩ := pr_ticks (E := E) (by omega) hI (xs (6 * r + 1))
  refine g_aload_n h dL_law__1211 rfl rfl ?_
  refine g_arg C (k := 1) hr (by decide) rfl rfl dL_law__1212 dL_law__1213 dL_law__1215 dL_law__1216 dL_law__1217 (by decide) ?_
  refine g_aload_n h dL_law__1218 rfl rfl ?_
  refine g_SW h C.2.1 lw_L_187 (c_L_ticks (xs (6 * r + 1)) u c2 c1) hp_nx (fitL C.2.2.2.2 (by decide) (by decide) (by omega)) rfl rfl (Nat.le_of_ble_eq_true rfl) dL_law__1219 (fun v w' hH => ?_)
  obtain ⟨o, w, k, hC, hw, rfl, hag⟩ := hp_un (by decide) c2 hH
  obtain ⟨PM, m1, m2⟩ := c3 o w w' hC hw
  refine g_istore (ls' := LS5 E b r k) h dL_law__1222 (by decide) rfl rfl ?_
  refine g_aload_n h dL_law__1224 rfl rfl ?_
  refine g_arg C (k := 1) hr (by decide) rfl rfl dL_law__1225 dL_law__1226 dL_law__1228 dL_law__1229 dL_law__1230 (by decide) ?_
  refine g_VP h lv_L_189_X11 sh_178 (by decide) rfl m1 (fun Ex t h9 => by obtain ⟨⟨_, _, e, _⟩, _⟩ := m2 _ _ h9; cases e) (fitL C.2.2.2.2 (by decide) (by decide) (by omega)) rfl rfl (Nat.le_of_ble_eq_true rfl) dL_law__1231 (fun v2 t hM => ?_)
  obtain ⟨ha, h197⟩ := m2 _ _ hM
  obtain ⟨x, t', e, hin, hJ, h0, hv⟩ := hag _ _ _ ha h197
  cases e
  exact lw_tail C (by omega) dL_law__1234 dL_law__1236 dL_law__1237 dL_law__1240 dL_law__1242 dL_law__1247 dL_law__1249 dL_law__1252 dL_law__1253 dL_law__1254 dL_law__1255 dL_law__1257 dL_law__1258 dL_law__1259 dL_law__1264 (by decide) h0 hv (g_ran hin (kk t' hJ))
theorem cs_neighbours (C : LwX E X b L xs) (hr : 6 * r + 5 < L) (hn : n ≤ 100000) (hI : INV r u) (hTp : u 183 = u 1) (kk : ∀ t, INV (r + 1) t → G E X Q 7 (n + 1) 2669 (LSv E b r) [] t) : G E X Q 7 n 1267 (LSv E b r) [] u := by
  have h := C.1
  have hL := C.2.2.2.1
  obtain ⟨T, W, pf, pc, tl, hI⟩ := hI
  obtain ⟨PC, c1, c2, c3⟩ := pr_neighbours (E := E) (by omega) hI (xs (6 * r + 1)) (xs (6 * r + 2)) (nz (xs (6 * r + 3)))
  refine g_aload_n h dL_law__1267 rfl rfl ?_
  refine g_arg C (k := 1) hr (by decide) rfl rfl dL_law__1268 dL_law__1269 dL_law__1271 dL_law__1272 dL_law__1273 (by decide) ?_
  refine g_arg C (k := 2) hr (by decide) rfl rfl dL_law__1274 dL_law__1275 dL_law__1277 dL_law__1278 dL_law__1279 (by decide) ?_
  refine g_arg C (k := 3) hr (by decide) rfl rfl dL_law__1280 dL_law__1281 dL_law__1283 dL_law__1284 dL_law__1285 (by decide) ?_
  refine g_nz C dL_law__1286 dL_law__1289 dL_law__1290 dL_law__1293 ?_
  refine g_aload_n h dL_law__1294 rfl rfl ?_
  refine g_SW h C.2.1 lw_L_190 (c_L_neighbours (xs (6 * r + 1)) (xs (6 * r + 2)) (nz (xs (6 * r + 3))) u c2 c1) hp_nx (fitL C.2.2.2.2 (by decide) (by decide) (by omega)) rfl rfl (Nat.le_of_ble_eq_true rfl) dL_law__1295 (fun v w' hH => ?_)
  obtain ⟨o, w, k, hC, hw, rfl, hag⟩ := hp_un (by decide) c2 hH
  obtain ⟨PM, m1, m2⟩ := c3 o w w' hC hw
  refine g_istore (ls' := LS5 E b r k) h dL_law__1298 (by decide) rfl rfl ?_
  refine g_aload_n h dL_law__1300 rfl rfl ?_
  refine g_arg C (k := 1) hr (by decide) rfl rfl dL_law__1301 dL_law__1302 dL_law__1304 dL_law__1305 dL_law__1306 (by decide) ?_
  refine g_arg C (k := 2) hr (by decide) rfl rfl dL_law__1307 dL_law__1308 dL_law__1310 dL_law__1311 dL_law__1312 (by decide) ?_
  refine g_arg C (k := 3) hr (by decide) rfl rfl dL_law__1313 dL_law__1314 dL_law__1316 dL_law__1317 dL_law__1318 (by decide) ?_
  refine g_nz C dL_law__1319 dL_law__1322 dL_law__1323 dL_law__1326 ?_
  refine g_VP h lv_L_192_X11 sh_178 (by decide) rfl m1 (fun Ex t h9 => by obtain ⟨⟨_, _, e, _⟩, _⟩ := m2 _ _ h9; cases e) (fitL C.2.2.2.2 (by decide) (by decide) (by omega)) rfl rfl (Nat.le_of_ble_eq_true rfl) dL_law__1327 (fun v2 t hM => ?_)
  obtain ⟨ha, h197⟩ := m2 _ _ hM
  obtain ⟨x, t', e, hin, hJ, h0, hv⟩ := hag _ _ _ ha h197
  cases e
  exact lw_tail C (by omega) dL_law__1330 dL_law__1332 dL_law__1333 dL_law__1336 dL_law__1338 dL_law__1343 dL_law__1345 dL_law__1348 dL_law__1349 dL_law__1350 dL_law__1351 dL_law__1353 dL_law__1354 dL_law__1355 dL_law__1360 (by decide) h0 hv (g_ran hin (kk t' hJ))
theorem cs_run (C : LwX E X b L xs) (hr : 6 * r + 5 < L) (hn : n ≤ 100000) (hI : INV r u) (hTp : u 183 = u 1) (kk : ∀ t, INV (r + 1) t → G E X Q 7 (n + 1) 2669 (LSv E b r) [] t) : G E X Q 7 n 1363 (LSv E b r) [] u := by
  have h := C.1
  have hL := C.2.2.2.1
  obtain ⟨T, W, pf, pc, tl, hI⟩ := hI
  obtain ⟨PC, c1, c2, c3⟩ := pr_run (E := E) (by omega) hI (xs (6 * r + 1)) (nz (xs (6 * r + 2)))
  refine g_aload_n h dL_law__1363 rfl rfl ?_
  refine g_arg C (k := 1) hr (by decide) rfl rfl dL_law__1364 dL_law__1365 dL_law__1367 dL_law__1368 dL_law__1369 (by decide) ?_
  refine g_arg C (k := 2) hr (by decide) rfl rfl dL_law__1370 dL_law__1371 dL_law__1373 dL_law__1374 dL_law__1375 (by decide) ?_
  refine g_nz C dL_law__1376 dL_law__1379 dL_law__1380 dL_law__1383 ?_
  refine g_aload_n h dL_law__1384 rfl rfl ?_
  refine g_SW h C.2.1 lw_L_193 (c_L_run (xs (6 * r + 1)) (nz (xs (6 * r + 2))) u c2 c1) hp_nx (fitL C.2.2.2.2 (by decide) (by decide) (by omega)) rfl rfl (Nat.le_of_ble_eq_true rfl) dL_law__1385 (fun v w' hH => ?_)
  obtain ⟨o, w, k, hC, hw, rfl, hag⟩ := hp_un (by decide) c2 hH
  obtain ⟨PM, m1, m2⟩ := c3 o w w' hC hw
  refine g_istore (ls' := LS5 E b r k) h dL_law__1388 (by decide) rfl rfl ?_
  refine g_aload_n h dL_law__1390 rfl rfl ?_
  refine g_arg C (k := 1) hr (by decide) rfl rfl dL_law__1391 dL_law__1392 dL_law__1394 dL_law__1395 dL_law__1396 (by decide) ?_
  refine g_arg C (k := 2) hr (by decide) rfl rfl dL_law__1397 dL_law__1398 dL_law__1400 dL_law__1401 dL_law__1402 (by decide) ?_
  refine g_nz C dL_law__1403 dL_law__1406 dL_law__1407 dL_law__1410 ?_
  refine g_VP h lv_L_196_X11 sh_178 (by decide) rfl m1 (fun Ex t h9 => by obtain ⟨⟨_, _, e, _⟩, _⟩ := m2 _ _ h9; cases e) (fitL C.2.2.2.2 (by decide) (by decide) (by omega)) rfl rfl (Nat.le_of_ble_eq_true rfl) dL_law__1411 (fun v2 t hM => ?_)
  obtain ⟨ha, h197⟩ := m2 _ _ hM
  obtain ⟨x, t', e, hin, hJ, h0, hv⟩ := hag _ _ _ ha h197
  cases e
  exact lw_tail C (by omega) dL_law__1414 dL_law__1416 dL_law__1417 dL_law__1420 dL_law__1422 dL_law__1427 dL_law__1429 dL_law__1432 dL_law__1433 dL_law__1434 dL_law__1435 dL_law__1437 dL_law__1438 dL_law__1439 dL_law__1444 (by decide) h0 hv (g_ran hin (kk t' hJ))
theorem cs_empty (C : LwX E X b L xs) (hr : 6 * r + 5 < L) (hn : n ≤ 100000) (hI : INV r u) (kk : ∀ t, INV (r + 1) t → G E X Q 7 (n + 1) 2669 (LSv E b r) [] t) : G E X Q 7 n 1447 (LSv E b r) [] u := by
  have h := C.1
  have hL := C.2.2.2.1
  obtain ⟨T, W, pf, pc, tl, hI⟩ := hI
  obtain ⟨PC, c1, c2, c3⟩ := pr_empty (E := E) (by omega) hI (nz (xs (6 * r + 1)))
  refine g_aload_n h dL_law__1447 rfl rfl ?_
  refine g_arg C (k := 1) hr (by decide) rfl rfl dL_law__1448 dL_law__1449 dL_law__1451 dL_law__1452 dL_law__1453 (by decide) ?_
  refine g_nz C dL_law__1454 dL_law__1457 dL_law__1458 dL_law__1461 ?_
  refine g_VP h lv_L_197_X10 sh_0 (by decide) rfl c1 c2 (fitL C.2.2.2.2 (by decide) (by decide) (by omega)) rfl rfl (Nat.le_of_ble_eq_true rfl) dL_law__1462 (fun v w hC => ?_)
  obtain ⟨PM, m1, m2⟩ := c3 _ w hC
  refine g_aload_n h dL_law__1465 rfl rfl ?_
  refine g_arg C (k := 1) hr (by decide) rfl rfl dL_law__1466 dL_law__1467 dL_law__1469 dL_law__1470 dL_law__1471 (by decide) ?_
  refine g_nz C dL_law__1472 dL_law__1475 dL_law__1476 dL_law__1479 ?_
  refine g_VP (rest := v.toList ++ []) h lv_L_201_X11 sh_178 (by decide) rfl m1 (fun Ex t h9 => by obtain ⟨_, _, _, e, _⟩ := m2 _ _ h9; cases e) (fitL C.2.2.2.2 (by decide) (by decide) (by omega)) rfl rfl (ro_v v) dL_law__1480 (fun v2 t hM => ?_)
  obtain ⟨x, t', e1, e2, hin, hJ⟩ := m2 _ _ hM
  cases e1
  cases e2
  exact lw_tailD C dL_law__1483 (by decide) (g_ran hin (g_more (Nat.le_succ _) (kk t' hJ)))
theorem cs_wedding (C : LwX E X b L xs) (hr : 6 * r + 5 < L) (hn : n ≤ 100000) (hI : INV r u) (hTp : u 183 = u 1) (kk : ∀ t, INV (r + 1) t → G E X Q 7 (n + 1) 2669 (LSv E b r) [] t) : G E X Q 7 n 1488 (LSv E b r) [] u := by
  have h := C.1
  have hL := C.2.2.2.1
  obtain ⟨T, W, pf, pc, tl, hI⟩ := hI
  obtain ⟨PC, c1, c2, c3⟩ := pr_wedding (E := E) (by omega) hI (xs (6 * r + 1)) (xs (6 * r + 2))
  refine g_aload_n h dL_law__1488 rfl rfl ?_
  refine g_arg C (k := 1) hr (by decide) rfl rfl dL_law__1489 dL_law__1490 dL_law__1492 dL_law__1493 dL_law__1494 (by decide) ?_
  refine g_arg C (k := 2) hr (by decide) rfl rfl dL_law__1495 dL_law__1496 dL_law__1498 dL_law__1499 dL_law__1500 (by decide) ?_
  refine g_aload_n h dL_law__1501 rfl rfl ?_
  refine g_SW h C.2.1 lw_L_202 (c_L_wedding (xs (6 * r + 1)) (xs (6 * r + 2)) u c2 c1) hp_nx (fitL C.2.2.2.2 (by decide) (by decide) (by omega)) rfl rfl (Nat.le_of_ble_eq_true rfl) dL_law__1502 (fun v w' hH => ?_)
  obtain ⟨o, w, k, hC, hw, rfl, hag⟩ := hp_un (by decide) c2 hH
  obtain ⟨PM, m1, m2⟩ := c3 o w w' hC hw
  refine g_istore (ls' := LS5 E b r k) h dL_law__1505 (by decide) rfl rfl ?_
  refine g_aload_n h dL_law__1507 rfl rfl ?_
  refine g_arg C (k := 1) hr (by decide) rfl rfl dL_law__1508 dL_law__1509 dL_law__1511 dL_law__1512 dL_law__1513 (by decide) ?_
  refine g_arg C (k := 2) hr (by decide) rfl rfl dL_law__1514 dL_law__1515 dL_law__1517 dL_law__1518 dL_law__1519 (by decide) ?_
  refine g_VP h lv_L_204_X11 sh_178 (by decide) rfl m1 (fun Ex t h9 => by obtain ⟨⟨_, _, e, _⟩, _⟩ := m2 _ _ h9; cases e) (fitL C.2.2.2.2 (by decide) (by decide) (by omega)) rfl rfl (Nat.le_of_ble_eq_true rfl) dL_law__1520 (fun v2 t hM => ?_)
  obtain ⟨ha, h197⟩ := m2 _ _ hM
  obtain ⟨x, t', e, hin, hJ, h0, hv⟩ := hag _ _ _ ha h197
  cases e
  exact lw_tail C (by omega) dL_law__1523 dL_law__1525 dL_law__1526 dL_law__1529 dL_law__1531 dL_law__1536 dL_law__1538 dL_law__1541 dL_law__1542 dL_law__1543 dL_law__1544 dL_law__1546 dL_law__1547 dL_law__1548 dL_law__1553 (by decide) h0 hv (g_ran hin (kk t' hJ))
theorem cs_court (C : LwX E X b L xs) (hr : 6 * r + 5 < L) (hn : n ≤ 100000) (hI : INV r u) (kk : ∀ t, INV (r + 1) t → G E X Q 7 (n + 1) 2669 (LSv E b r) [] t) : G E X Q 7 n 1556 (LSv E b r) [] u := by
  have h := C.1
  have hL := C.2.2.2.1
  obtain ⟨T, W, pf, pc, tl, hI⟩ := hI
  obtain ⟨PC, c1, c2, c3⟩ := pr_court (E := E) (by omega) hI (xs (6 * r + 1)) (nz (xs (6 * r + 2)))
  refine g_aload_n h dL_law__1556 rfl rfl ?_
  refine g_arg C (k := 1) hr (by decide) rfl rfl dL_law__1557 dL_law__1558 dL_law__1560 dL_law__1561 dL_law__1562 (by decide) ?_
  refine g_arg C (k := 2) hr (by decide) rfl rfl dL_law__1563 dL_law__1564 dL_law__1566 dL_law__1567 dL_law__1568 (by decide) ?_
  refine g_nz C dL_law__1569 dL_law__1572 dL_law__1573 dL_law__1576 ?_
  refine g_VP h lv_L_205_X10 sh_0 (by decide) rfl c1 c2 (fitL C.2.2.2.2 (by decide) (by decide) (by omega)) rfl rfl (Nat.le_of_ble_eq_true rfl) dL_law__1577 (fun v w hC => ?_)
  obtain ⟨PM, m1, m2⟩ := c3 _ w hC
  refine g_aload_n h dL_law__1580 rfl rfl ?_
  refine g_arg C (k := 1) hr (by decide) rfl rfl dL_law__1581 dL_law__1582 dL_law__1584 dL_law__1585 dL_law__1586 (by decide) ?_
  refine g_arg C (k := 2) hr (by decide) rfl rfl dL_law__1587 dL_law__1588 dL_law__1590 dL_law__1591 dL_law__1592 (by decide) ?_
  refine g_nz C dL_law__1593 dL_law__1596 dL_law__1597 dL_law__1600 ?_
  refine g_VP (rest := v.toList ++ []) h lv_L_208_X11 sh_178 (by decide) rfl m1 (fun Ex t h9 => by obtain ⟨_, _, _, e, _⟩ := m2 _ _ h9; cases e) (fitL C.2.2.2.2 (by decide) (by decide) (by omega)) rfl rfl (ro_v v) dL_law__1601 (fun v2 t hM => ?_)
  obtain ⟨x, t', e1, e2, hin, hJ⟩ := m2 _ _ hM
  cases e1
  cases e2
  exact lw_tailD C dL_law__1604 (by decide) (g_ran hin (g_more (Nat.le_succ _) (kk t' hJ)))
theorem cs_cheap (C : LwX E X b L xs) (hr : 6 * r + 5 < L) (hn : n ≤ 100000) (hI : INV r u) (hTp : u 183 = u 1) (kk : ∀ t, INV (r + 1) t → G E X Q 7 (n + 1) 2669 (LSv E b r) [] t) : G E X Q 7 n 1609 (LSv E b r) [] u := by
  have h := C.1
  have hL := C.2.2.2.1
  obtain ⟨T, W, pf, pc, tl, hI⟩ := hI
  obtain ⟨PC, c1, c2, c3⟩ := pr_cheap (E := E) (by omega) hI (xs (6 * r + 1)) (xs (6 * r + 2)) (xs (6 * r + 3))
  refine g_aload_n h dL_law__1609 rfl rfl ?_
  refine g_arg C (k := 1) hr (by decide) rfl rfl dL_law__1610 dL_law__1611 dL_law__1613 dL_law__1614 dL_law__1615 (by decide) ?_
  refine g_arg C (k := 2) hr (by decide) rfl rfl dL_law__1616 dL_law__1617 dL_law__1619 dL_law__1620 dL_law__1621 (by decide) ?_
  refine g_arg C (k := 3) hr (by decide) rfl rfl dL_law__1622 dL_law__1623 dL_law__1625 dL_law__1626 dL_law__1627 (by decide) ?_
  refine g_aload_n h dL_law__1628 rfl rfl ?_
  refine g_SW h C.2.1 lw_L_209 (c_L_cheap (xs (6 * r + 1)) (xs (6 * r + 2)) (xs (6 * r + 3)) u c2 c1) hp_nx (fitL C.2.2.2.2 (by decide) (by decide) (by omega)) rfl rfl (Nat.le_of_ble_eq_true rfl) dL_law__1629 (fun v w' hH => ?_)
  obtain ⟨o, w, k, hC, hw, rfl, hag⟩ := hp_un (by decide) c2 hH
  obtain ⟨PM, m1, m2⟩ := c3 o w w' hC hw
  refine g_istore (ls' := LS5 E b r k) h dL_law__1632 (by decide) rfl rfl ?_
  refine g_aload_n h dL_law__1634 rfl rfl ?_
  refine g_arg C (k := 1) hr (by decide) rfl rfl dL_law__1635 dL_law__1636 dL_law__1638 dL_law__1639 dL_law__1640 (by decide) ?_
  refine g_arg C (k := 2) hr (by decide) rfl rfl dL_law__1641 dL_law__1642 dL_law__1644 dL_law__1645 dL_law__1646 (by decide) ?_
  refine g_arg C (k := 3) hr (by decide) rfl rfl dL_law__1647 dL_law__1648 dL_law__1650 dL_law__1651 dL_law__1652 (by decide) ?_
  refine g_VP h lv_L_211_X11 sh_178 (by decide) rfl m1 (fun Ex t h9 => by obtain ⟨⟨_, _, e, _⟩, _⟩ := m2 _ _ h9; cases e) (fitL C.2.2.2.2 (by decide) (by decide) (by omega)) rfl rfl (Nat.le_of_ble_eq_true rfl) dL_law__1653 (fun v2 t hM => ?_)
  obtain ⟨ha, h197⟩ := m2 _ _ hM
  obtain ⟨x, t', e, hin, hJ, h0, hv⟩ := hag _ _ _ ha h197
  cases e
  exact lw_tail C (by omega) dL_law__1656 dL_law__1658 dL_law__1659 dL_law__1662 dL_law__1664 dL_law__1669 dL_law__1671 dL_law__1674 dL_law__1675 dL_law__1676 dL_law__1677 dL_law__1679 dL_law__1680 dL_law__1681 dL_law__1686 (by decide) h0 hv (g_ran hin (kk t' hJ))
theorem cs_fitted (C : LwX E X b L xs) (hr : 6 * r + 5 < L) (hn : n ≤ 100000) (hI : INV r u) (kk : ∀ t, INV (r + 1) t → G E X Q 7 (n + 1) 2669 (LSv E b r) [] t) : G E X Q 7 n 1689 (LSv E b r) [] u := by
  have h := C.1
  have hL := C.2.2.2.1
  obtain ⟨T, W, pf, pc, tl, hI⟩ := hI
  obtain ⟨PC, c1, c2, c3⟩ := pr_fitted (E := E) (by omega) hI (nz (xs (6 * r + 1)))
  refine g_aload_n h dL_law__1689 rfl rfl ?_
  refine g_arg C (k := 1) hr (by decide) rfl rfl dL_law__1690 dL_law__1691 dL_law__1693 dL_law__1694 dL_law__1695 (by decide) ?_
  refine g_nz C dL_law__1696 dL_law__1699 dL_law__1700 dL_law__1703 ?_
  refine g_VP h lv_L_212_X10 sh_0 (by decide) rfl c1 c2 (fitL C.2.2.2.2 (by decide) (by decide) (by omega)) rfl rfl (Nat.le_of_ble_eq_true rfl) dL_law__1704 (fun v w hC => ?_)
  obtain ⟨PM, m1, m2⟩ := c3 _ w hC
  refine g_aload_n h dL_law__1707 rfl rfl ?_
  refine g_arg C (k := 1) hr (by decide) rfl rfl dL_law__1708 dL_law__1709 dL_law__1711 dL_law__1712 dL_law__1713 (by decide) ?_
  refine g_nz C dL_law__1714 dL_law__1717 dL_law__1718 dL_law__1721 ?_
  refine g_VP (rest := v.toList ++ []) h lv_L_215_X11 sh_178 (by decide) rfl m1 (fun Ex t h9 => by obtain ⟨_, _, _, e, _⟩ := m2 _ _ h9; cases e) (fitL C.2.2.2.2 (by decide) (by decide) (by omega)) rfl rfl (ro_v v) dL_law__1722 (fun v2 t hM => ?_)
  obtain ⟨x, t', e1, e2, hin, hJ⟩ := m2 _ _ hM
  cases e1
  cases e2
  exact lw_tailD C dL_law__1725 (by decide) (g_ran hin (g_more (Nat.le_succ _) (kk t' hJ)))
theorem cs_given (C : LwX E X b L xs) (hr : 6 * r + 5 < L) (hn : n ≤ 100000) (hI : INV r u) (hTp : u 183 = u 1) (kk : ∀ t, INV (r + 1) t → G E X Q 7 (n + 1) 2669 (LSv E b r) [] t) : G E X Q 7 n 1730 (LSv E b r) [] u := by
  have h := C.1
  have hL := C.2.2.2.1
  obtain ⟨T, W, pf, pc, tl, hI⟩ := hI
  obtain ⟨PC, c1, c2, c3⟩ := pr_given (E := E) (by omega) hI (xs (6 * r + 1))
  refine g_aload_n h dL_law__1730 rfl rfl ?_
  refine g_arg C (k := 1) hr (by decide) rfl rfl dL_law__1731 dL_law__1732 dL_law__1734 dL_law__1735 dL_law__1736 (by decide) ?_
  refine g_aload_n h dL_law__1737 rfl rfl ?_
  refine g_SW h C.2.1 lw_L_216 (c_L_given (xs (6 * r + 1)) u c2 c1) hp_nx (fitL C.2.2.2.2 (by decide) (by decide) (by omega)) rfl rfl (Nat.le_of_ble_eq_true rfl) dL_law__1738 (fun v w' hH => ?_)
  obtain ⟨o, w, k, hC, hw, rfl, hag⟩ := hp_un (by decide) c2 hH
  obtain ⟨PM, m1, m2⟩ := c3 o w w' hC hw
  refine g_istore (ls' := LS5 E b r k) h dL_law__1741 (by decide) rfl rfl ?_
  refine g_aload_n h dL_law__1743 rfl rfl ?_
  refine g_arg C (k := 1) hr (by decide) rfl rfl dL_law__1744 dL_law__1745 dL_law__1747 dL_law__1748 dL_law__1749 (by decide) ?_
  refine g_VP h lv_L_218_X11 sh_178 (by decide) rfl m1 (fun Ex t h9 => by obtain ⟨⟨_, _, e, _⟩, _⟩ := m2 _ _ h9; cases e) (fitL C.2.2.2.2 (by decide) (by decide) (by omega)) rfl rfl (Nat.le_of_ble_eq_true rfl) dL_law__1750 (fun v2 t hM => ?_)
  obtain ⟨ha, h197⟩ := m2 _ _ hM
  obtain ⟨x, t', e, hin, hJ, h0, hv⟩ := hag _ _ _ ha h197
  cases e
  exact lw_tail C (by omega) dL_law__1753 dL_law__1755 dL_law__1756 dL_law__1759 dL_law__1761 dL_law__1766 dL_law__1768 dL_law__1771 dL_law__1772 dL_law__1773 dL_law__1774 dL_law__1776 dL_law__1777 dL_law__1778 dL_law__1783 (by decide) h0 hv (g_ran hin (kk t' hJ))
theorem cs_envies (C : LwX E X b L xs) (hr : 6 * r + 5 < L) (hn : n ≤ 100000) (hI : INV r u) (hTp : u 183 = u 1) (kk : ∀ t, INV (r + 1) t → G E X Q 7 (n + 1) 2669 (LSv E b r) [] t) : G E X Q 7 n 1786 (LSv E b r) [] u := by
  have h := C.1
  have hL := C.2.2.2.1
  obtain ⟨T, W, pf, pc, tl, hI⟩ := hI
  obtain ⟨PC, c1, c2, c3⟩ := pr_envies (E := E) (by omega) hI (xs (6 * r + 1))
  refine g_aload_n h dL_law__1786 rfl rfl ?_
  refine g_arg C (k := 1) hr (by decide) rfl rfl dL_law__1787 dL_law__1788 dL_law__1790 dL_law__1791 dL_law__1792 (by decide) ?_
  refine g_aload_n h dL_law__1793 rfl rfl ?_
  refine g_SW h C.2.1 lw_L_219 (c_L_envies (xs (6 * r + 1)) u c2 c1) hp_nx (fitL C.2.2.2.2 (by decide) (by decide) (by omega)) rfl rfl (Nat.le_of_ble_eq_true rfl) dL_law__1794 (fun v w' hH => ?_)
  obtain ⟨o, w, k, hC, hw, rfl, hag⟩ := hp_un (by decide) c2 hH
  obtain ⟨PM, m1, m2⟩ := c3 o w w' hC hw
  refine g_istore (ls' := LS5 E b r k) h dL_law__1797 (by decide) rfl rfl ?_
  refine g_aload_n h dL_law__1799 rfl rfl ?_
  refine g_arg C (k := 1) hr (by decide) rfl rfl dL_law__1800 dL_law__1801 dL_law__1803 dL_law__1804 dL_law__1805 (by decide) ?_
  refine g_VP h lv_L_221_X11 sh_178 (by decide) rfl m1 (fun Ex t h9 => by obtain ⟨⟨_, _, e, _⟩, _⟩ := m2 _ _ h9; cases e) (fitL C.2.2.2.2 (by decide) (by decide) (by omega)) rfl rfl (Nat.le_of_ble_eq_true rfl) dL_law__1806 (fun v2 t hM => ?_)
  obtain ⟨ha, h197⟩ := m2 _ _ hM
  obtain ⟨x, t', e, hin, hJ, h0, hv⟩ := hag _ _ _ ha h197
  cases e
  exact lw_tail C (by omega) dL_law__1809 dL_law__1811 dL_law__1812 dL_law__1815 dL_law__1817 dL_law__1822 dL_law__1824 dL_law__1827 dL_law__1828 dL_law__1829 dL_law__1830 dL_law__1832 dL_law__1833 dL_law__1834 dL_law__1839 (by decide) h0 hv (g_ran hin (kk t' hJ))
theorem cs_fair (C : LwX E X b L xs) (hr : 6 * r + 5 < L) (hn : n ≤ 100000) (hI : INV r u) (hTp : u 183 = u 1) (kk : ∀ t, INV (r + 1) t → G E X Q 7 (n + 1) 2669 (LSv E b r) [] t) : G E X Q 7 n 1842 (LSv E b r) [] u := by
  have h := C.1
  have hL := C.2.2.2.1
  obtain ⟨T, W, pf, pc, tl, hI⟩ := hI
  obtain ⟨PC, c1, c2, c3⟩ := pr_fair (E := E) (by omega) hI (xs (6 * r + 1)) (xs (6 * r + 2)) (xs (6 * r + 3))
  refine g_aload_n h dL_law__1842 rfl rfl ?_
  refine g_arg C (k := 1) hr (by decide) rfl rfl dL_law__1843 dL_law__1844 dL_law__1846 dL_law__1847 dL_law__1848 (by decide) ?_
  refine g_arg C (k := 2) hr (by decide) rfl rfl dL_law__1849 dL_law__1850 dL_law__1852 dL_law__1853 dL_law__1854 (by decide) ?_
  refine g_arg C (k := 3) hr (by decide) rfl rfl dL_law__1855 dL_law__1856 dL_law__1858 dL_law__1859 dL_law__1860 (by decide) ?_
  refine g_aload_n h dL_law__1861 rfl rfl ?_
  refine g_SW h C.2.1 lw_L_222 (c_L_fair (xs (6 * r + 1)) (xs (6 * r + 2)) (xs (6 * r + 3)) u c2 c1) hp_nx (fitL C.2.2.2.2 (by decide) (by decide) (by omega)) rfl rfl (Nat.le_of_ble_eq_true rfl) dL_law__1862 (fun v w' hH => ?_)
  obtain ⟨o, w, k, hC, hw, rfl, hag⟩ := hp_un (by decide) c2 hH
  obtain ⟨PM, m1, m2⟩ := c3 o w w' hC hw
  refine g_istore (ls' := LS5 E b r k) h dL_law__1865 (by decide) rfl rfl ?_
  refine g_aload_n h dL_law__1867 rfl rfl ?_
  refine g_arg C (k := 1) hr (by decide) rfl rfl dL_law__1868 dL_law__1869 dL_law__1871 dL_law__1872 dL_law__1873 (by decide) ?_
  refine g_arg C (k := 2) hr (by decide) rfl rfl dL_law__1874 dL_law__1875 dL_law__1877 dL_law__1878 dL_law__1879 (by decide) ?_
  refine g_arg C (k := 3) hr (by decide) rfl rfl dL_law__1880 dL_law__1881 dL_law__1883 dL_law__1884 dL_law__1885 (by decide) ?_
  refine g_VP h lv_L_224_X11 sh_178 (by decide) rfl m1 (fun Ex t h9 => by obtain ⟨⟨_, _, e, _⟩, _⟩ := m2 _ _ h9; cases e) (fitL C.2.2.2.2 (by decide) (by decide) (by omega)) rfl rfl (Nat.le_of_ble_eq_true rfl) dL_law__1886 (fun v2 t hM => ?_)
  obtain ⟨ha, h197⟩ := m2 _ _ hM
  obtain ⟨x, t', e, hin, hJ, h0, hv⟩ := hag _ _ _ ha h197
  cases e
  exact lw_tail C (by omega) dL_law__1889 dL_law__1891 dL_law__1892 dL_law__1895 dL_law__1897 dL_law__1902 dL_law__1904 dL_law__1907 dL_law__1908 dL_law__1909 dL_law__1910 dL_law__1912 dL_law__1913 dL_law__1914 dL_law__1919 (by decide) h0 hv (g_ran hin (kk t' hJ))
theorem cs_ring (C : LwX E X b L xs) (hr : 6 * r + 5 < L) (hn : n ≤ 100000) (hI : INV r u) (hTp : u 183 = u 1) (kk : ∀ t, INV (r + 1) t → G E X Q 7 (n + 1) 2669 (LSv E b r) [] t) : G E X Q 7 n 1922 (LSv E b r) [] u := by
  have h := C.1
  have hL := C.2.2.2.1
  obtain ⟨T, W, pf, pc, tl, hI⟩ := hI
  obtain ⟨PC, c1, c2, c3⟩ := pr_ring (E := E) (by omega) hI (xs (6 * r + 1)) (xs (6 * r + 2))
  refine g_aload_n h dL_law__1922 rfl rfl ?_
  refine g_arg C (k := 1) hr (by decide) rfl rfl dL_law__1923 dL_law__1924 dL_law__1926 dL_law__1927 dL_law__1928 (by decide) ?_
  refine g_arg C (k := 2) hr (by decide) rfl rfl dL_law__1929 dL_law__1930 dL_law__1932 dL_law__1933 dL_law__1934 (by decide) ?_
  refine g_aload_n h dL_law__1935 rfl rfl ?_
  refine g_SW h C.2.1 lw_L_225 (c_L_ring (xs (6 * r + 1)) (xs (6 * r + 2)) u c2 c1) hp_nx (fitL C.2.2.2.2 (by decide) (by decide) (by omega)) rfl rfl (Nat.le_of_ble_eq_true rfl) dL_law__1936 (fun v w' hH => ?_)
  obtain ⟨o, w, k, hC, hw, rfl, hag⟩ := hp_un (by decide) c2 hH
  obtain ⟨PM, m1, m2⟩ := c3 o w w' hC hw
  refine g_istore (ls' := LS5 E b r k) h dL_law__1939 (by decide) rfl rfl ?_
  refine g_aload_n h dL_law__1941 rfl rfl ?_
  refine g_arg C (k := 1) hr (by decide) rfl rfl dL_law__1942 dL_law__1943 dL_law__1945 dL_law__1946 dL_law__1947 (by decide) ?_
  refine g_arg C (k := 2) hr (by decide) rfl rfl dL_law__1948 dL_law__1949 dL_law__1951 dL_law__1952 dL_law__1953 (by decide) ?_
  refine g_VP h lv_L_227_X11 sh_178 (by decide) rfl m1 (fun Ex t h9 => by obtain ⟨⟨_, _, e, _⟩, _⟩ := m2 _ _ h9; cases e) (fitL C.2.2.2.2 (by decide) (by decide) (by omega)) rfl rfl (Nat.le_of_ble_eq_true rfl) dL_law__1954 (fun v2 t hM => ?_)
  obtain ⟨ha, h197⟩ := m2 _ _ hM
  obtain ⟨x, t', e, hin, hJ, h0, hv⟩ := hag _ _ _ ha h197
  cases e
  exact lw_tail C (by omega) dL_law__1957 dL_law__1959 dL_law__1960 dL_law__1963 dL_law__1965 dL_law__1970 dL_law__1972 dL_law__1975 dL_law__1976 dL_law__1977 dL_law__1978 dL_law__1980 dL_law__1981 dL_law__1982 dL_law__1987 (by decide) h0 hv (g_ran hin (kk t' hJ))
theorem cs_turn (C : LwX E X b L xs) (hr : 6 * r + 5 < L) (hn : n ≤ 100000) (hI : INV r u) (hTp : u 183 = u 1) (kk : ∀ t, INV (r + 1) t → G E X Q 7 (n + 1) 2669 (LSv E b r) [] t) : G E X Q 7 n 1990 (LSv E b r) [] u := by
  have h := C.1
  have hL := C.2.2.2.1
  obtain ⟨T, W, pf, pc, tl, hI⟩ := hI
  obtain ⟨PC, c1, c2, c3⟩ := pr_turn (E := E) (by omega) hI (xs (6 * r + 1))
  refine g_aload_n h dL_law__1990 rfl rfl ?_
  refine g_arg C (k := 1) hr (by decide) rfl rfl dL_law__1991 dL_law__1992 dL_law__1994 dL_law__1995 dL_law__1996 (by decide) ?_
  refine g_aload_n h dL_law__1997 rfl rfl ?_
  refine g_SW h C.2.1 lw_L_228 (c_L_turn (xs (6 * r + 1)) u c2 c1) hp_nx (fitL C.2.2.2.2 (by decide) (by decide) (by omega)) rfl rfl (Nat.le_of_ble_eq_true rfl) dL_law__1998 (fun v w' hH => ?_)
  obtain ⟨o, w, k, hC, hw, rfl, hag⟩ := hp_un (by decide) c2 hH
  obtain ⟨PM, m1, m2⟩ := c3 o w w' hC hw
  refine g_istore (ls' := LS5 E b r k) h dL_law__2001 (by decide) rfl rfl ?_
  refine g_aload_n h dL_law__2003 rfl rfl ?_
  refine g_arg C (k := 1) hr (by decide) rfl rfl dL_law__2004 dL_law__2005 dL_law__2007 dL_law__2008 dL_law__2009 (by decide) ?_
  refine g_VP h lv_L_230_X11 sh_178 (by decide) rfl m1 (fun Ex t h9 => by obtain ⟨⟨_, _, e, _⟩, _⟩ := m2 _ _ h9; cases e) (fitL C.2.2.2.2 (by decide) (by decide) (by omega)) rfl rfl (Nat.le_of_ble_eq_true rfl) dL_law__2010 (fun v2 t hM => ?_)
  obtain ⟨ha, h197⟩ := m2 _ _ hM
  obtain ⟨x, t', e, hin, hJ, h0, hv⟩ := hag _ _ _ ha h197
  cases e
  exact lw_tail C (by omega) dL_law__2013 dL_law__2015 dL_law__2016 dL_law__2019 dL_law__2021 dL_law__2026 dL_law__2028 dL_law__2031 dL_law__2032 dL_law__2033 dL_law__2034 dL_law__2036 dL_law__2037 dL_law__2038 dL_law__2043 (by decide) h0 hv (g_ran hin (kk t' hJ))
theorem cs_soonest (C : LwX E X b L xs) (hr : 6 * r + 5 < L) (hn : n ≤ 100000) (hI : INV r u) (hTp : u 183 = u 1) (kk : ∀ t, INV (r + 1) t → G E X Q 7 (n + 1) 2669 (LSv E b r) [] t) : G E X Q 7 n 2046 (LSv E b r) [] u := by
  have h := C.1
  have hL := C.2.2.2.1
  obtain ⟨T, W, pf, pc, tl, hI⟩ := hI
  obtain ⟨PC, c1, c2, c3⟩ := pr_soonest (E := E) (by omega) hI (xs (6 * r + 1)) (xs (6 * r + 2))
  refine g_aload_n h dL_law__2046 rfl rfl ?_
  refine g_arg C (k := 1) hr (by decide) rfl rfl dL_law__2047 dL_law__2048 dL_law__2050 dL_law__2051 dL_law__2052 (by decide) ?_
  refine g_arg C (k := 2) hr (by decide) rfl rfl dL_law__2053 dL_law__2054 dL_law__2056 dL_law__2057 dL_law__2058 (by decide) ?_
  refine g_aload_n h dL_law__2059 rfl rfl ?_
  refine g_SW h C.2.1 lw_L_231 (c_L_soonest (xs (6 * r + 1)) (xs (6 * r + 2)) u c2 c1) hp_nx (fitL C.2.2.2.2 (by decide) (by decide) (by omega)) rfl rfl (Nat.le_of_ble_eq_true rfl) dL_law__2060 (fun v w' hH => ?_)
  obtain ⟨o, w, k, hC, hw, rfl, hag⟩ := hp_un (by decide) c2 hH
  obtain ⟨PM, m1, m2⟩ := c3 o w w' hC hw
  refine g_istore (ls' := LS5 E b r k) h dL_law__2063 (by decide) rfl rfl ?_
  refine g_aload_n h dL_law__2065 rfl rfl ?_
  refine g_arg C (k := 1) hr (by decide) rfl rfl dL_law__2066 dL_law__2067 dL_law__2069 dL_law__2070 dL_law__2071 (by decide) ?_
  refine g_arg C (k := 2) hr (by decide) rfl rfl dL_law__2072 dL_law__2073 dL_law__2075 dL_law__2076 dL_law__2077 (by decide) ?_
  refine g_VP h lv_L_233_X11 sh_178 (by decide) rfl m1 (fun Ex t h9 => by obtain ⟨⟨_, _, e, _⟩, _⟩ := m2 _ _ h9; cases e) (fitL C.2.2.2.2 (by decide) (by decide) (by omega)) rfl rfl (Nat.le_of_ble_eq_true rfl) dL_law__2078 (fun v2 t hM => ?_)
  obtain ⟨ha, h197⟩ := m2 _ _ hM
  obtain ⟨x, t', e, hin, hJ, h0, hv⟩ := hag _ _ _ ha h197
  cases e
  exact lw_tail C (by omega) dL_law__2081 dL_law__2083 dL_law__2084 dL_law__2087 dL_law__2089 dL_law__2094 dL_law__2096 dL_law__2099 dL_law__2100 dL_law__2101 dL_law__2102 dL_law__2104 dL_law__2105 dL_law__2106 dL_law__2111 (by decide) h0 hv (g_ran hin (kk t' hJ))
theorem cs_heard (C : LwX E X b L xs) (hr : 6 * r + 5 < L) (hn : n ≤ 100000) (hI : INV r u) (hTp : u 183 = u 1) (kk : ∀ t, INV (r + 1) t → G E X Q 7 (n + 1) 2669 (LSv E b r) [] t) : G E X Q 7 n 2114 (LSv E b r) [] u := by
  have h := C.1
  have hL := C.2.2.2.1
  obtain ⟨T, W, pf, pc, tl, hI⟩ := hI
  obtain ⟨PC, c1, c2, c3⟩ := pr_heard (E := E) (by omega) hI (xs (6 * r + 1)) (xs (6 * r + 2))
  refine g_aload_n h dL_law__2114 rfl rfl ?_
  refine g_arg C (k := 1) hr (by decide) rfl rfl dL_law__2115 dL_law__2116 dL_law__2118 dL_law__2119 dL_law__2120 (by decide) ?_
  refine g_arg C (k := 2) hr (by decide) rfl rfl dL_law__2121 dL_law__2122 dL_law__2124 dL_law__2125 dL_law__2126 (by decide) ?_
  refine g_aload_n h dL_law__2127 rfl rfl ?_
  refine g_SW h C.2.1 lw_L_234 (c_L_heard (xs (6 * r + 1)) (xs (6 * r + 2)) u c2 c1) hp_nx (fitL C.2.2.2.2 (by decide) (by decide) (by omega)) rfl rfl (Nat.le_of_ble_eq_true rfl) dL_law__2128 (fun v w' hH => ?_)
  obtain ⟨o, w, k, hC, hw, rfl, hag⟩ := hp_un (by decide) c2 hH
  obtain ⟨PM, m1, m2⟩ := c3 o w w' hC hw
  refine g_istore (ls' := LS5 E b r k) h dL_law__2131 (by decide) rfl rfl ?_
  refine g_aload_n h dL_law__2133 rfl rfl ?_
  refine g_arg C (k := 1) hr (by decide) rfl rfl dL_law__2134 dL_law__2135 dL_law__2137 dL_law__2138 dL_law__2139 (by decide) ?_
  refine g_arg C (k := 2) hr (by decide) rfl rfl dL_law__2140 dL_law__2141 dL_law__2143 dL_law__2144 dL_law__2145 (by decide) ?_
  refine g_VP h lv_L_236_X11 sh_178 (by decide) rfl m1 (fun Ex t h9 => by obtain ⟨⟨_, _, e, _⟩, _⟩ := m2 _ _ h9; cases e) (fitL C.2.2.2.2 (by decide) (by decide) (by omega)) rfl rfl (Nat.le_of_ble_eq_true rfl) dL_law__2146 (fun v2 t hM => ?_)
  obtain ⟨ha, h197⟩ := m2 _ _ hM
  obtain ⟨x, t', e, hin, hJ, h0, hv⟩ := hag _ _ _ ha h197
  cases e
  exact lw_tail C (by omega) dL_law__2149 dL_law__2151 dL_law__2152 dL_law__2155 dL_law__2157 dL_law__2162 dL_law__2164 dL_law__2167 dL_law__2168 dL_law__2169 dL_law__2170 dL_law__2172 dL_law__2173 dL_law__2174 dL_law__2179 (by decide) h0 hv (g_ran hin (kk t' hJ))
theorem cs_roomsFor (C : LwX E X b L xs) (hr : 6 * r + 5 < L) (hn : n ≤ 100000) (hI : INV r u) (hTp : u 183 = u 1) (kk : ∀ t, INV (r + 1) t → G E X Q 7 (n + 1) 2669 (LSv E b r) [] t) : G E X Q 7 n 2182 (LSv E b r) [] u := by
  have h := C.1
  have hL := C.2.2.2.1
  obtain ⟨T, W, pf, pc, tl, hI⟩ := hI
  obtain ⟨PC, c1, c2, c3⟩ := pr_roomsFor (E := E) (by omega) hI (xs (6 * r + 1)) (xs (6 * r + 2)) (nz (xs (6 * r + 3)))
  refine g_aload_n h dL_law__2182 rfl rfl ?_
  refine g_arg C (k := 1) hr (by decide) rfl rfl dL_law__2183 dL_law__2184 dL_law__2186 dL_law__2187 dL_law__2188 (by decide) ?_
  refine g_arg C (k := 2) hr (by decide) rfl rfl dL_law__2189 dL_law__2190 dL_law__2192 dL_law__2193 dL_law__2194 (by decide) ?_
  refine g_arg C (k := 3) hr (by decide) rfl rfl dL_law__2195 dL_law__2196 dL_law__2198 dL_law__2199 dL_law__2200 (by decide) ?_
  refine g_nz C dL_law__2201 dL_law__2204 dL_law__2205 dL_law__2208 ?_
  refine g_aload_n h dL_law__2209 rfl rfl ?_
  refine g_SW h C.2.1 lw_L_237 (c_L_roomsFor (xs (6 * r + 1)) (xs (6 * r + 2)) (nz (xs (6 * r + 3))) u c2 c1) hp_nx (fitL C.2.2.2.2 (by decide) (by decide) (by omega)) rfl rfl (Nat.le_of_ble_eq_true rfl) dL_law__2210 (fun v w' hH => ?_)
  obtain ⟨o, w, k, hC, hw, rfl, hag⟩ := hp_un (by decide) c2 hH
  obtain ⟨PM, m1, m2⟩ := c3 o w w' hC hw
  refine g_istore (ls' := LS5 E b r k) h dL_law__2213 (by decide) rfl rfl ?_
  refine g_aload_n h dL_law__2215 rfl rfl ?_
  refine g_arg C (k := 1) hr (by decide) rfl rfl dL_law__2216 dL_law__2217 dL_law__2219 dL_law__2220 dL_law__2221 (by decide) ?_
  refine g_arg C (k := 2) hr (by decide) rfl rfl dL_law__2222 dL_law__2223 dL_law__2225 dL_law__2226 dL_law__2227 (by decide) ?_
  refine g_arg C (k := 3) hr (by decide) rfl rfl dL_law__2228 dL_law__2229 dL_law__2231 dL_law__2232 dL_law__2233 (by decide) ?_
  refine g_nz C dL_law__2234 dL_law__2237 dL_law__2238 dL_law__2241 ?_
  refine g_VP h lv_L_239_X11 sh_178 (by decide) rfl m1 (fun Ex t h9 => by obtain ⟨⟨_, _, e, _⟩, _⟩ := m2 _ _ h9; cases e) (fitL C.2.2.2.2 (by decide) (by decide) (by omega)) rfl rfl (Nat.le_of_ble_eq_true rfl) dL_law__2242 (fun v2 t hM => ?_)
  obtain ⟨ha, h197⟩ := m2 _ _ hM
  obtain ⟨x, t', e, hin, hJ, h0, hv⟩ := hag _ _ _ ha h197
  cases e
  exact lw_tail C (by omega) dL_law__2245 dL_law__2247 dL_law__2248 dL_law__2251 dL_law__2253 dL_law__2258 dL_law__2260 dL_law__2263 dL_law__2264 dL_law__2265 dL_law__2266 dL_law__2268 dL_law__2269 dL_law__2270 dL_law__2275 (by decide) h0 hv (g_ran hin (kk t' hJ))
theorem cs_thieves (C : LwX E X b L xs) (hr : 6 * r + 5 < L) (hn : n ≤ 100000) (hI : INV r u) (hTp : u 183 = u 1) (kk : ∀ t, INV (r + 1) t → G E X Q 7 (n + 1) 2669 (LSv E b r) [] t) : G E X Q 7 n 2278 (LSv E b r) [] u := by
  have h := C.1
  have hL := C.2.2.2.1
  obtain ⟨T, W, pf, pc, tl, hI⟩ := hI
  obtain ⟨PC, c1, c2, c3⟩ := pr_thieves (E := E) (by omega) hI 
  refine g_aload_n h dL_law__2278 rfl rfl ?_
  refine g_aload_n h dL_law__2279 rfl rfl ?_
  refine g_SW h C.2.1 lw_L_240 (c_L_thieves  u c2 c1) hp_nx (fitL C.2.2.2.2 (by decide) (by decide) (by omega)) rfl rfl (Nat.le_of_ble_eq_true rfl) dL_law__2280 (fun v w' hH => ?_)
  obtain ⟨o, w, k, hC, hw, rfl, hag⟩ := hp_un (by decide) c2 hH
  obtain ⟨PM, m1, m2⟩ := c3 o w w' hC hw
  refine g_istore (ls' := LS5 E b r k) h dL_law__2283 (by decide) rfl rfl ?_
  refine g_aload_n h dL_law__2285 rfl rfl ?_
  refine g_VP h lv_L_242_X11 sh_178 (by decide) rfl m1 (fun Ex t h9 => by obtain ⟨⟨_, _, e, _⟩, _⟩ := m2 _ _ h9; cases e) (fitL C.2.2.2.2 (by decide) (by decide) (by omega)) rfl rfl (Nat.le_of_ble_eq_true rfl) dL_law__2286 (fun v2 t hM => ?_)
  obtain ⟨ha, h197⟩ := m2 _ _ hM
  obtain ⟨x, t', e, hin, hJ, h0, hv⟩ := hag _ _ _ ha h197
  cases e
  exact lw_tail C (by omega) dL_law__2289 dL_law__2291 dL_law__2292 dL_law__2295 dL_law__2297 dL_law__2302 dL_law__2304 dL_law__2307 dL_law__2308 dL_law__2309 dL_law__2310 dL_law__2312 dL_law__2313 dL_law__2314 dL_law__2319 (by decide) h0 hv (g_ran hin (kk t' hJ))
theorem cs_seen (C : LwX E X b L xs) (hr : 6 * r + 5 < L) (hn : n ≤ 100000) (hI : INV r u) (hTp : u 183 = u 1) (kk : ∀ t, INV (r + 1) t → G E X Q 7 (n + 1) 2669 (LSv E b r) [] t) : G E X Q 7 n 2322 (LSv E b r) [] u := by
  have h := C.1
  have hL := C.2.2.2.1
  obtain ⟨T, W, pf, pc, tl, hI⟩ := hI
  obtain ⟨PC, c1, c2, c3⟩ := pr_seen (E := E) (by omega) hI 
  refine g_aload_n h dL_law__2322 rfl rfl ?_
  refine g_aload_n h dL_law__2323 rfl rfl ?_
  refine g_SW h C.2.1 lw_L_243 (c_L_seen  u c2 c1) hp_nx (fitL C.2.2.2.2 (by decide) (by decide) (by omega)) rfl rfl (Nat.le_of_ble_eq_true rfl) dL_law__2324 (fun v w' hH => ?_)
  obtain ⟨o, w, k, hC, hw, rfl, hag⟩ := hp_un (by decide) c2 hH
  obtain ⟨PM, m1, m2⟩ := c3 o w w' hC hw
  refine g_istore (ls' := LS5 E b r k) h dL_law__2327 (by decide) rfl rfl ?_
  refine g_aload_n h dL_law__2329 rfl rfl ?_
  refine g_VP h lv_L_245_X11 sh_178 (by decide) rfl m1 (fun Ex t h9 => by obtain ⟨⟨_, _, e, _⟩, _⟩ := m2 _ _ h9; cases e) (fitL C.2.2.2.2 (by decide) (by decide) (by omega)) rfl rfl (Nat.le_of_ble_eq_true rfl) dL_law__2330 (fun v2 t hM => ?_)
  obtain ⟨ha, h197⟩ := m2 _ _ hM
  obtain ⟨x, t', e, hin, hJ, h0, hv⟩ := hag _ _ _ ha h197
  cases e
  exact lw_tail C (by omega) dL_law__2333 dL_law__2335 dL_law__2336 dL_law__2339 dL_law__2341 dL_law__2346 dL_law__2348 dL_law__2351 dL_law__2352 dL_law__2353 dL_law__2354 dL_law__2356 dL_law__2357 dL_law__2358 dL_law__2363 (by decide) h0 hv (g_ran hin (kk t' hJ))
theorem cs_changed (C : LwX E X b L xs) (hr : 6 * r + 5 < L) (hn : n ≤ 100000) (hI : INV r u) (hTp : u 183 = u 1) (kk : ∀ t, INV (r + 1) t → G E X Q 7 (n + 1) 2669 (LSv E b r) [] t) : G E X Q 7 n 2366 (LSv E b r) [] u := by
  have h := C.1
  have hL := C.2.2.2.1
  obtain ⟨T, W, pf, pc, tl, hI⟩ := hI
  obtain ⟨PC, c1, c2, c3⟩ := pr_changed (E := E) (by omega) hI (xs (6 * r + 1)) (xs (6 * r + 2)) (xs (6 * r + 3))
  refine g_aload_n h dL_law__2366 rfl rfl ?_
  refine g_arg C (k := 1) hr (by decide) rfl rfl dL_law__2367 dL_law__2368 dL_law__2370 dL_law__2371 dL_law__2372 (by decide) ?_
  refine g_arg C (k := 2) hr (by decide) rfl rfl dL_law__2373 dL_law__2374 dL_law__2376 dL_law__2377 dL_law__2378 (by decide) ?_
  refine g_arg C (k := 3) hr (by decide) rfl rfl dL_law__2379 dL_law__2380 dL_law__2382 dL_law__2383 dL_law__2384 (by decide) ?_
  refine g_aload_n h dL_law__2385 rfl rfl ?_
  refine g_SW h C.2.1 lw_L_246 (c_L_changed (xs (6 * r + 1)) (xs (6 * r + 2)) (xs (6 * r + 3)) u c2 c1) hp_nx (fitL C.2.2.2.2 (by decide) (by decide) (by omega)) rfl rfl (Nat.le_of_ble_eq_true rfl) dL_law__2386 (fun v w' hH => ?_)
  obtain ⟨o, w, k, hC, hw, rfl, hag⟩ := hp_un (by decide) c2 hH
  obtain ⟨PM, m1, m2⟩ := c3 o w w' hC hw
  refine g_istore (ls' := LS5 E b r k) h dL_law__2389 (by decide) rfl rfl ?_
  refine g_aload_n h dL_law__2391 rfl rfl ?_
  refine g_arg C (k := 1) hr (by decide) rfl rfl dL_law__2392 dL_law__2393 dL_law__2395 dL_law__2396 dL_law__2397 (by decide) ?_
  refine g_arg C (k := 2) hr (by decide) rfl rfl dL_law__2398 dL_law__2399 dL_law__2401 dL_law__2402 dL_law__2403 (by decide) ?_
  refine g_arg C (k := 3) hr (by decide) rfl rfl dL_law__2404 dL_law__2405 dL_law__2407 dL_law__2408 dL_law__2409 (by decide) ?_
  refine g_VP h lv_L_248_X11 sh_178 (by decide) rfl m1 (fun Ex t h9 => by obtain ⟨⟨_, _, e, _⟩, _⟩ := m2 _ _ h9; cases e) (fitL C.2.2.2.2 (by decide) (by decide) (by omega)) rfl rfl (Nat.le_of_ble_eq_true rfl) dL_law__2410 (fun v2 t hM => ?_)
  obtain ⟨ha, h197⟩ := m2 _ _ hM
  obtain ⟨x, t', e, hin, hJ, h0, hv⟩ := hag _ _ _ ha h197
  cases e
  exact lw_tail C (by omega) dL_law__2413 dL_law__2415 dL_law__2416 dL_law__2419 dL_law__2421 dL_law__2426 dL_law__2428 dL_law__2431 dL_law__2432 dL_law__2433 dL_law__2434 dL_law__2436 dL_law__2437 dL_law__2438 dL_law__2443 (by decide) h0 hv (g_ran hin (kk t' hJ))
theorem cs_log (C : LwX E X b L xs) (hr : 6 * r + 5 < L) (hn : n ≤ 100000) (hI : INV r u) (hTp : u 183 = u 1) (kk : ∀ t, INV (r + 1) t → G E X Q 7 (n + 1) 2669 (LSv E b r) [] t) : G E X Q 7 n 2446 (LSv E b r) [] u := by
  have h := C.1
  have hL := C.2.2.2.1
  obtain ⟨T, W, pf, pc, tl, hI⟩ := hI
  obtain ⟨PC, c1, c2, c3⟩ := pr_log (E := E) (by omega) hI (xs (6 * r + 1)) (xs (6 * r + 2))
  refine g_aload_n h dL_law__2446 rfl rfl ?_
  refine g_arg C (k := 1) hr (by decide) rfl rfl dL_law__2447 dL_law__2448 dL_law__2450 dL_law__2451 dL_law__2452 (by decide) ?_
  refine g_arg C (k := 2) hr (by decide) rfl rfl dL_law__2453 dL_law__2454 dL_law__2456 dL_law__2457 dL_law__2458 (by decide) ?_
  refine g_aload_n h dL_law__2459 rfl rfl ?_
  refine g_SW h C.2.1 lw_L_249 (c_L_log (xs (6 * r + 1)) (xs (6 * r + 2)) u c2 c1) hp_nx (fitL C.2.2.2.2 (by decide) (by decide) (by omega)) rfl rfl (Nat.le_of_ble_eq_true rfl) dL_law__2460 (fun v w' hH => ?_)
  obtain ⟨o, w, k, hC, hw, rfl, hag⟩ := hp_un (by decide) c2 hH
  obtain ⟨PM, m1, m2⟩ := c3 o w w' hC hw
  refine g_istore (ls' := LS5 E b r k) h dL_law__2463 (by decide) rfl rfl ?_
  refine g_aload_n h dL_law__2465 rfl rfl ?_
  refine g_arg C (k := 1) hr (by decide) rfl rfl dL_law__2466 dL_law__2467 dL_law__2469 dL_law__2470 dL_law__2471 (by decide) ?_
  refine g_arg C (k := 2) hr (by decide) rfl rfl dL_law__2472 dL_law__2473 dL_law__2475 dL_law__2476 dL_law__2477 (by decide) ?_
  refine g_VP h lv_L_251_X11 sh_178 (by decide) rfl m1 (fun Ex t h9 => by obtain ⟨⟨_, _, e, _⟩, _⟩ := m2 _ _ h9; cases e) (fitL C.2.2.2.2 (by decide) (by decide) (by omega)) rfl rfl (Nat.le_of_ble_eq_true rfl) dL_law__2478 (fun v2 t hM => ?_)
  obtain ⟨ha, h197⟩ := m2 _ _ hM
  obtain ⟨x, t', e, hin, hJ, h0, hv⟩ := hag _ _ _ ha h197
  cases e
  exact lw_tail C (by omega) dL_law__2481 dL_law__2483 dL_law__2484 dL_law__2487 dL_law__2489 dL_law__2494 dL_law__2496 dL_law__2499 dL_law__2500 dL_law__2501 dL_law__2502 dL_law__2504 dL_law__2505 dL_law__2506 dL_law__2511 (by decide) h0 hv (g_ran hin (kk t' hJ))
theorem cs_led (C : LwX E X b L xs) (hr : 6 * r + 5 < L) (hn : n ≤ 100000) (hI : INV r u) (hTp : u 183 = u 1) (kk : ∀ t, INV (r + 1) t → G E X Q 7 (n + 1) 2669 (LSv E b r) [] t) : G E X Q 7 n 2514 (LSv E b r) [] u := by
  have h := C.1
  have hL := C.2.2.2.1
  obtain ⟨T, W, pf, pc, tl, hI⟩ := hI
  obtain ⟨PC, c1, c2, c3⟩ := pr_led (E := E) (by omega) hI (xs (6 * r + 1)) (xs (6 * r + 2))
  refine g_aload_n h dL_law__2514 rfl rfl ?_
  refine g_arg C (k := 1) hr (by decide) rfl rfl dL_law__2515 dL_law__2516 dL_law__2518 dL_law__2519 dL_law__2520 (by decide) ?_
  refine g_arg C (k := 2) hr (by decide) rfl rfl dL_law__2521 dL_law__2522 dL_law__2524 dL_law__2525 dL_law__2526 (by decide) ?_
  refine g_aload_n h dL_law__2527 rfl rfl ?_
  refine g_SW h C.2.1 lw_L_252 (c_L_led (xs (6 * r + 1)) (xs (6 * r + 2)) u c2 c1) hp_nx (fitL C.2.2.2.2 (by decide) (by decide) (by omega)) rfl rfl (Nat.le_of_ble_eq_true rfl) dL_law__2528 (fun v w' hH => ?_)
  obtain ⟨o, w, k, hC, hw, rfl, hag⟩ := hp_un (by decide) c2 hH
  obtain ⟨PM, m1, m2⟩ := c3 o w w' hC hw
  refine g_istore (ls' := LS5 E b r k) h dL_law__2531 (by decide) rfl rfl ?_
  refine g_aload_n h dL_law__2533 rfl rfl ?_
  refine g_arg C (k := 1) hr (by decide) rfl rfl dL_law__2534 dL_law__2535 dL_law__2537 dL_law__2538 dL_law__2539 (by decide) ?_
  refine g_arg C (k := 2) hr (by decide) rfl rfl dL_law__2540 dL_law__2541 dL_law__2543 dL_law__2544 dL_law__2545 (by decide) ?_
  refine g_VP h lv_L_254_X11 sh_178 (by decide) rfl m1 (fun Ex t h9 => by obtain ⟨⟨_, _, e, _⟩, _⟩ := m2 _ _ h9; cases e) (fitL C.2.2.2.2 (by decide) (by decide) (by omega)) rfl rfl (Nat.le_of_ble_eq_true rfl) dL_law__2546 (fun v2 t hM => ?_)
  obtain ⟨ha, h197⟩ := m2 _ _ hM
  obtain ⟨x, t', e, hin, hJ, h0, hv⟩ := hag _ _ _ ha h197
  cases e
  exact lw_tail C (by omega) dL_law__2549 dL_law__2551 dL_law__2552 dL_law__2555 dL_law__2557 dL_law__2562 dL_law__2564 dL_law__2567 dL_law__2568 dL_law__2569 dL_law__2570 dL_law__2572 dL_law__2573 dL_law__2574 dL_law__2579 (by decide) h0 hv (g_ran hin (kk t' hJ))
theorem cs_seed (C : LwX E X b L xs) (hr : 6 * r + 5 < L) (hn : n ≤ 100000) (hI : INV r u) (kk : ∀ t, INV (r + 1) t → G E X Q 7 (n + 1) 2669 (LSv E b r) [] t) : G E X Q 7 n 2582 (LSv E b r) [] u := by
  have h := C.1
  have hL := C.2.2.2.1
  obtain ⟨T, W, pf, pc, tl, hI⟩ := hI
  obtain ⟨PC, c1, c2, c3⟩ := pr_seed (E := E) (by omega) hI (xs (6 * r + 1))
  refine g_aload_n h dL_law__2582 rfl rfl ?_
  refine g_arg C (k := 1) hr (by decide) rfl rfl dL_law__2583 dL_law__2584 dL_law__2586 dL_law__2587 dL_law__2588 (by decide) ?_
  refine g_VP h lv_L_255_X10 sh_0 (by decide) rfl c1 c2 (fitL C.2.2.2.2 (by decide) (by decide) (by omega)) rfl rfl (Nat.le_of_ble_eq_true rfl) dL_law__2589 (fun v w hC => ?_)
  obtain ⟨PM, m1, m2⟩ := c3 _ w hC
  refine g_aload_n h dL_law__2592 rfl rfl ?_
  refine g_arg C (k := 1) hr (by decide) rfl rfl dL_law__2593 dL_law__2594 dL_law__2596 dL_law__2597 dL_law__2598 (by decide) ?_
  refine g_VP (rest := v.toList ++ []) h lv_L_258_X11 sh_178 (by decide) rfl m1 (fun Ex t h9 => by obtain ⟨_, _, _, e, _⟩ := m2 _ _ h9; cases e) (fitL C.2.2.2.2 (by decide) (by decide) (by omega)) rfl rfl (ro_v v) dL_law__2599 (fun v2 t hM => ?_)
  obtain ⟨x, t', e1, e2, hin, hJ⟩ := m2 _ _ hM
  cases e1
  cases e2
  exact lw_tailD C dL_law__2602 (by decide) (g_ran hin (g_more (Nat.le_succ _) (kk t' hJ)))
theorem cs_undo (C : LwX E X b L xs) (hr : 6 * r + 5 < L) (hn : n ≤ 100000) (hI : INV r u) (kk : ∀ t, INV (r + 1) t → G E X Q 7 (n + 1) 2669 (LSv E b r) [] t) : G E X Q 7 n 2607 (LSv E b r) [] u := by
  have h := C.1
  have hL := C.2.2.2.1
  obtain ⟨T, W, pf, pc, tl, hI⟩ := hI
  obtain ⟨PC, c1, c2, c3⟩ := pr_undo (E := E) (by omega) hI 
  refine g_aload_n h dL_law__2607 rfl rfl ?_
  refine g_VP h lv_L_259_X10 sh_0 (by decide) rfl c1 c2 (fitL C.2.2.2.2 (by decide) (by decide) (by omega)) rfl rfl (Nat.le_of_ble_eq_true rfl) dL_law__2608 (fun v w hC => ?_)
  obtain ⟨PM, m1, m2⟩ := c3 _ w hC
  refine g_aload_n h dL_law__2611 rfl rfl ?_
  refine g_VP (rest := v.toList ++ []) h lv_L_263_X11 sh_178 (by decide) rfl m1 (fun Ex t h9 => by obtain ⟨_, _, _, e, _⟩ := m2 _ _ h9; cases e) (fitL C.2.2.2.2 (by decide) (by decide) (by omega)) rfl rfl (ro_v v) dL_law__2612 (fun v2 t hM => ?_)
  obtain ⟨x, t', e1, e2, hin, hJ⟩ := m2 _ _ hM
  cases e1
  cases e2
  exact lw_tailD C dL_law__2615 (by decide) (g_ran hin (g_more (Nat.le_succ _) (kk t' hJ)))
theorem cs_image (C : LwX E X b L xs) (hr : 6 * r + 5 < L) (hn : n ≤ 100000) (hI : INV r u) (kk : ∀ t, INV (r + 1) t → G E X Q 7 (n + 1) 2669 (LSv E b r) [] t) : G E X Q 7 n 2620 (LSv E b r) [] u := by
  have h := C.1
  have hL := C.2.2.2.1
  refine g_aload_n h dL_law__2620 rfl rfl ?_
  refine g_V h lv_L_264_X10 sh_0 (by decide) rfl (c_X10_image u) (fitL C.2.2.2.2 (by decide) (by decide) (by omega)) rfl rfl (Nat.le_of_ble_eq_true rfl) dL_law__2621 ?_
  refine g_aload_n h dL_law__2624 rfl rfl ?_
  refine g_V h lv_L_267_X11 sh_178 (by decide) rfl (c_X11_image _) (fitL C.2.2.2.2 (by decide) (by decide) (by omega)) rfl rfl (Nat.le_of_ble_eq_true rfl) dL_law__2625 ?_
  obtain ⟨t', hin, hJ⟩ := ag_image hI _ rfl
  refine g_goto (tgt := 2669) h dL_law__2628 (by decide) ?_
  exact g_ran hin (g_more (Nat.le_succ _) (kk t' hJ))
theorem cs_back (C : LwX E X b L xs) (hr : 6 * r + 5 < L) (hn : n ≤ 100000) (hI : INV r u) (kk : ∀ t, INV (r + 1) t → G E X Q 7 (n + 1) 2669 (LSv E b r) [] t) : G E X Q 7 n 2631 (LSv E b r) [] u := by
  have h := C.1
  have hL := C.2.2.2.1
  obtain ⟨T, W, pf, pc, tl, hI⟩ := hI
  obtain ⟨PC, c1, c2, c3⟩ := pr_back (E := E) (by omega) hI 
  refine g_aload_n h dL_law__2631 rfl rfl ?_
  refine g_VP h lv_L_268_X10 sh_0 (by decide) rfl c1 c2 (fitL C.2.2.2.2 (by decide) (by decide) (by omega)) rfl rfl (Nat.le_of_ble_eq_true rfl) dL_law__2632 (fun v w hC => ?_)
  obtain ⟨PM, m1, m2⟩ := c3 _ w hC
  refine g_aload_n h dL_law__2635 rfl rfl ?_
  refine g_VP (rest := v.toList ++ []) h lv_L_271_X11 sh_178 (by decide) rfl m1 (fun Ex t h9 => by obtain ⟨_, _, _, e, _⟩ := m2 _ _ h9; cases e) (fitL C.2.2.2.2 (by decide) (by decide) (by omega)) rfl rfl (ro_v v) dL_law__2636 (fun v2 t hM => ?_)
  obtain ⟨x, t', e1, e2, hin, hJ⟩ := m2 _ _ hM
  cases e1
  cases e2
  exact lw_tailD C dL_law__2639 (by decide) (g_ran hin (g_more (Nat.le_succ _) (kk t' hJ)))
theorem cs_count (C : LwX E X b L xs) (hr : 6 * r + 5 < L) (hn : n ≤ 100000) (hI : INV r u) (kk : ∀ t, INV (r + 1) t → G E X Q 7 (n + 1) 2669 (LSv E b r) [] t) : G E X Q 7 n 2644 (LSv E b r) [] u := by
  have h := C.1
  have hL := C.2.2.2.1
  obtain ⟨T, W, pf, pc, tl, hI⟩ := hI
  obtain ⟨PC, c1, c2, c3⟩ := pr_count (E := E) (by omega) hI (xs (6 * r + 1))
  refine g_aload_n h dL_law__2644 rfl rfl ?_
  refine g_arg C (k := 1) hr (by decide) rfl rfl dL_law__2645 dL_law__2646 dL_law__2648 dL_law__2649 dL_law__2650 (by decide) ?_
  refine g_VP h lv_L_272_X10 sh_0 (by decide) rfl c1 c2 (fitL C.2.2.2.2 (by decide) (by decide) (by omega)) rfl rfl (Nat.le_of_ble_eq_true rfl) dL_law__2651 (fun v w hC => ?_)
  obtain ⟨PM, m1, m2⟩ := c3 _ w hC
  refine g_aload_n h dL_law__2654 rfl rfl ?_
  refine g_arg C (k := 1) hr (by decide) rfl rfl dL_law__2655 dL_law__2656 dL_law__2658 dL_law__2659 dL_law__2660 (by decide) ?_
  refine g_VP (rest := v.toList ++ []) h lv_L_275_X11 sh_178 (by decide) rfl m1 (fun Ex t h9 => by obtain ⟨_, _, _, e, _⟩ := m2 _ _ h9; cases e) (fitL C.2.2.2.2 (by decide) (by decide) (by omega)) rfl rfl (ro_v v) dL_law__2661 (fun v2 t hM => ?_)
  obtain ⟨x, t', e1, e2, hin, hJ⟩ := m2 _ _ hM
  cases e1
  cases e2
  exact lw_tailD C dL_law__2664 (by decide) (g_ran hin (g_more (Nat.le_succ _) (kk t' hJ)))
end CS
