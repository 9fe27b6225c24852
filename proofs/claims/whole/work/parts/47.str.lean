-- after: 38.r
/-! the JDK's texts: their length, their signs -/
section STR
variable {E : EE} {X : XX} {Q : State → Prop} {own : String} {cc : ByteArray} {nL n pc : Nat} {ls : List (Nat × Value)} {st rest : List Value} {u : Sto}
theorem env_str (h : CX E X own cc nL) : vk_S strN strLen strByt E.aK E.aV (A0 E) X.s X.s.heap := by
  obtain ⟨-, -, -, -, -, -, e7, -⟩ := id h.2.2.2.2.2
  exact e7
theorem env_cmp (h : CX E X own cc nL) : va_Z "java/lang/String" "COMPACT_STRINGS" "Z" (.int 1) (A0 E) X.s X.s.heap := by
  obtain ⟨-, -, -, -, -, -, -, -, -, -, e11, -⟩ := id h.2.2.2.2.2
  exact e11
theorem env_sio (h : CX E X own cc nL) : va_Zq "jdk/internal/util/Preconditions" "SIOOBE_FORMATTER" "Ljava/util/function/BiFunction;" (A0 E) X.s X.s.heap := by
  obtain ⟨-, -, -, -, -, -, -, -, -, -, -, e12⟩ := id h.2.2.2.2.2
  exact e12
theorem g_nret (h : CX E X own cc nL) {o : Res} {u' : Sto} {mc : Nat} {v : Int32} {ty : FieldType} (hr : X.meth.sig.returnType = some ty) (hv : narrow ty (.int v) = .int v) (hd : decode cc pc = .ok (.ireturn, 1)) (hn : n ≤ mc) (ho : o = .inl (some (.int v))) (hu : u' = u) : G E X (QM E X o u' mc) nL n pc ls [.int v] u := fun H locs ar hP hS hl => by
  subst ho; subst hu
  exact W.widen hn (Nat.mul_le_mul_left 6 hn) (vx_ret (W.zret (v := v) h.1 h.2.1 hr hv (fun t ht hW => ⟨some (.int v), rfl, rfl, wok_end h.2.2.2.2.2 hP hS ht hW, hS.F ht⟩) hS.2.2 hd h.2.2.2.2.1))
theorem g_strV (h : CX E X RJ0 cc nL) {i : Nat} (hi : i < strN) (hd : decode cc pc = .ok (.getfield 9, 3)) (kk : G E X Q nL n (pc + 3) ls (.ref (E.aV i) :: st) u) : G E X Q nL n pc ls (.ref (E.aK i) :: st) u := fun H locs ar hP hS hl =>
  vk_getf h.1 h.2.1 ((env_str h).1 i hi).2.2.1 hS h.2.2.2.1 (env_w h tw_10_47) (fun _ h9 => h9) hd (kk H locs ar hP hS hl)
theorem g_strC (h : CX E X RJ0 cc nL) {i : Nat} (hi : i < strN) (hd : decode cc pc = .ok (.getfield 15, 3)) (kk : G E X Q nL n (pc + 3) ls (.int 0 :: st) u) : G E X Q nL n pc ls (.ref (E.aK i) :: st) u := fun H locs ar hP hS hl =>
  vk_getf h.1 h.2.1 ((env_str h).1 i hi).2.1 hS h.2.2.2.1 (env_w h tw_10_48) (fun _ h9 => h9) hd (kk H locs ar hP hS hl)
theorem g_strL (h : CX E X own cc nL) {i : Nat} (hi : i < strN) (hd : decode cc pc = .ok (.arraylength, 1)) (kk : G E X Q nL n (pc + 1) ls (.int (nI (strLen.getD i 0)) :: st) u) : G E X Q nL n pc ls (.ref (E.aV i) :: st) u := fun H locs ar hP hS hl =>
  va_tlen h.1 h.2.1 ((env_str h).1 i hi).2.2.2 hS rfl hd (kk H locs ar hP hS hl)
theorem g_strB (h : CX E X own cc nL) {i j : Nat} (hi : i < strN) (hj : j < strLen.getD i 0) (hl2 : strLen.getD i 0 < 2 ^ 31) (hd : decode cc pc = .ok (.baload, 1)) (kk : G E X Q nL n (pc + 1) ls (.int ((strByt.getD i []).getD j 0) :: st) u) : G E X Q nL n pc ls (.int (nI j) :: .ref (E.aV i) :: st) u := fun H locs ar hP hS hl =>
  va_tb (i := nI j) h.1 h.2.1 ((env_str h).1 i hi).2.2.2 hS (fun q => by
    rcases q with q | q
    · exact absurd q (Int32.not_lt.mpr (by rw [i0]; exact (nI_leI (by omega) (by omega)).mpr (Nat.zero_le _)))
    · have e : (nI j).toNatClampNeg = j := nI_clamp (by omega)
      rw [e] at q; omega) (by rw [show (nI j).toNatClampNeg = j from nI_clamp (by omega)]) hd (kk H locs ar hP hS hl)
theorem g_cmpS (h : CX E X RJ0 cc nL) (hd : decode cc pc = .ok (.getstatic 38, 3)) (kk : G E X Q nL n (pc + 3) ls (.int 1 :: st) u) : G E X Q nL n pc ls st u := fun H locs ar hP hS hl =>
  va_gets h.1 h.2.1 (env_cmp h) hS h.2.2.2.1 (env_w h tw_3_198) (fun _ h9 => h9) hd (kk H locs ar hP hS hl)
theorem g_sio (h : CX E X RJ0 cc nL) (hd : decode cc pc = .ok (.getstatic 1053, 3)) (k0 : G E X Q nL n (pc + 3) ls (.null :: st) u) (k1 : ∀ t : Nat, G E X Q nL n (pc + 3) ls (.ref t :: st) u) : G E X Q nL n pc ls st u := fun H locs ar hP hS hl => by
  rcases env_sio h with hz | ⟨t, hz⟩
  · exact va_gets h.1 h.2.1 hz hS h.2.2.2.1 (env_w h tw_3_214) (fun _ h9 => h9) hd (k0 H locs ar hP hS hl)
  · exact va_gets h.1 h.2.1 hz hS h.2.2.2.1 (env_w h tw_3_214) (fun _ h9 => h9) hd (k1 t H locs ar hP hS hl)
set_option maxHeartbeats 1000000 in
theorem g_VS (h : CX E X own cc nL) {L mc i idx na nc : Nat} {y : MethodName} {cb : ByteArray} {ret : Option FieldType} {As rest : List Value} {v : Option Value} {u' : Sto} (hlk : LkV own idx RJ0 y na cb nc ret) (hi : i < strN)
    (hc : Ct E L mc y cb nc ret (.ref (E.aK i) :: As) u (.inl v) u') (hf : FitR X.R L nc n mc) (hst : st = As.reverse ++ .ref (E.aK i) :: rest) (hna : As.length = na) (hro : (rest.map fun v => v.category).sum ≤ 8) (hd : decode cc pc = .ok (.invokevirtual idx, 3))
    (kk : G E X Q nL (n + mc) (pc + 3) ls (v.toList ++ rest) u') : G E X Q nL n pc ls st u := by
  subst hst
  obtain ⟨w1, w2, w3, w4, w5, w6⟩ := hlk
  obtain ⟨f1, f2, f3, f4⟩ := hf
  have hlen : ∀ sig, parseMethodDescriptor y.desc = some sig → na = sig.parameters.length := fun sig hsig => by rw [hsig] at w5; exact (Option.some.inj w5).symm
  have hws : ∀ w ∈ [Cond.code y cb nc ret], ∀ (a' : Array Value) (U : State), X.s.WarmedH U.vm → w.before a' U = true := fun w hw a' U hW => by
    rcases List.mem_cons.mp hw with rfl | hw
    · exact stable_of (List.mem_filter.mp w1).2 hW (env_w h w1 (a := #[]))
    · cases hw
  refine g_run (a := (Value.ref (E.aK i) :: As).toArray) (fun H locs ar hP hS hl => ?_) kk
  have hp : PreV X.s H RJ0 (E.aK i) (va_Pc (.ref (E.aK i) :: As) (fun U => WOK E u U)) As := ⟨wok_blind, vk_recv (env_str h) hi hS, fun U hU hW => ⟨rfl, wok_end h.2.2.2.2.2 hP hS hU hW⟩⟩
  rcases w6 with ⟨w6, w7 | ⟨host, w7⟩⟩ | ⟨x, w7, w8, w9, hx1, hx2⟩
  · exact va_runV (Ts := TW) ⟨h.1, h.2.1, h.2.2.1, h.2.2.2.1, env_ws h⟩ (ct_met hc) ⟨⟨rfl, rfl, f1, f2, hws, List.mem_cons_self, env_w h w1, env_w h w3, w4, hlen, env_w h w7⟩, env_w h w2, env_w h w6⟩ hp rfl hna hl.1 rfl (lv_room hro) hd ⟨f3, f4⟩
  · exact va_runVN (Ts := TW) (host := host) ⟨h.1, h.2.1, h.2.2.1, h.2.2.2.1, env_ws h⟩ (ct_met hc) ⟨⟨⟨rfl, rfl, f1, f2, hws, List.mem_cons_self⟩, env_w h w1, env_w h w3, w4, hlen, env_w h w7⟩, env_w h w2, env_w h w6⟩ hp rfl hna hl.1 rfl (lv_room hro) hd ⟨f3, f4⟩
  · have hyx : y = ⟨y.cls, x.name, x.desc⟩ := by rw [← hx1, ← hx2]
    exact va_runU (Ts := TW) (x := x) (owner := y.cls) ⟨h.1, h.2.1, h.2.2.1, h.2.2.2.1, env_ws h⟩ (ct_met hc) ⟨⟨rfl, rfl, f1, f2, hws, List.mem_cons_self⟩, env_w h w1, env_w h w3, w4, fun sig hsig => hlen sig (by rw [hx2]; exact hsig), env_w h w7, env_w h w8, by rw [← hyx]; exact va_Decl.of (env_w h w2 (a := X.args)) (env_w h w1), env_w h w9, env_w h w2⟩ hp rfl hna hl.1 rfl (lv_room hro) hd ⟨f3, f4⟩
end STR
theorem c_J0_coder {E : EE} (i : Nat) (hi : i < strN) (u : Sto) : Ct E 1 0 yJ0_coder_7d493 cJ0_coder_7d493 1 (some .byte) [.ref (E.aK i)] u (.inl (some (.int 0))) u := by
  refine ct_ofF (by decide +kernel) (Nat.le_of_ble_eq_true rfl) (fun X h hR hrt htab hargs => ?_)
  refine g_cmpS h dJ0_coder_7d493_0 ?_
  refine g_if_eq (tgt := 13) h dJ0_coder_7d493_3 (by decide) (fun c3 => ?_) (fun c3 => ?_)
  · exact absurd c3 (by decide)
  refine g_aload_n h dJ0_coder_7d493_6 rfl rfl ?_
  refine g_strC h hi dJ0_coder_7d493_7 ?_
  refine g_goto (tgt := 14) h dJ0_coder_7d493_10 (by decide) ?_
  exact g_nret h hrt (by rfl) dJ0_coder_7d493_14 (by omega) rfl rfl
theorem c_J0_isLatin1 {E : EE} (i : Nat) (hi : i < strN) (u : Sto) : Ct E 1 0 yJ0_isLatin1_aae02 cJ0_isLatin1_aae02 1 (some .boolean) [.ref (E.aK i)] u (.inl (some (.int 1))) u := by
  refine ct_ofF (by decide +kernel) (Nat.le_of_ble_eq_true rfl) (fun X h hR hrt htab hargs => ?_)
  refine g_cmpS h dJ0_isLatin1_aae02_0 ?_
  refine g_if_eq (tgt := 17) h dJ0_isLatin1_aae02_3 (by decide) (fun c3 => ?_) (fun c3 => ?_)
  · exact absurd c3 (by decide)
  refine g_aload_n h dJ0_isLatin1_aae02_6 rfl rfl ?_
  refine g_strC h hi dJ0_isLatin1_aae02_7 ?_
  refine g_if_ne (tgt := 17) h dJ0_isLatin1_aae02_10 (by decide) (fun c10 => ?_) (fun c10 => ?_)
  · exact absurd rfl c10
  refine g_iconst (v := 1) h dJ0_isLatin1_aae02_13 (by decide) ?_
  refine g_goto (tgt := 18) h dJ0_isLatin1_aae02_14 (by decide) ?_
  exact g_zret h hrt dJ0_isLatin1_aae02_18 (by omega) (Or.inr rfl) rfl rfl
theorem shr0 (x : Int32) : x >>> ((0 : Int32) &&& 31) = x := by
  rw [show ((0 : Int32) &&& 31) = 0 by decide]
  simp
theorem c_J0_length {E : EE} (i : Nat) (hi : i < strN) (u : Sto) : Ct E 2 0 yJ0_length_8abf5 cJ0_length_8abf5 1 (some .int) [.ref (E.aK i)] u (.inl (some (.int (nI (strLen.getD i 0))))) u := by
  refine ct_ofF (by decide +kernel) (Nat.le_of_ble_eq_true rfl) (fun X h hR hrt htab hargs => ?_)
  refine g_aload_n h dJ0_length_8abf5_0 rfl rfl ?_
  refine g_strV h hi dJ0_length_8abf5_1 ?_
  refine g_strL h hi dJ0_length_8abf5_4 ?_
  refine g_aload_n h dJ0_length_8abf5_5 rfl rfl ?_
  refine g_VS h lv_J0_335_J0 hi (c_J0_coder i hi _) (fitR hR (by decide) (by decide) (by omega)) rfl rfl (Nat.le_of_ble_eq_true rfl) dJ0_length_8abf5_6 ?_
  refine g_ishr h dJ0_length_8abf5_9 ?_
  refine g_top (shr0 _) ?_
  exact g_iret h hrt dJ0_length_8abf5_10 (by omega) rfl rfl
theorem c_J3_check0 {E : EE} (i m : Nat) (hi : i < m) (hm : m < 2 ^ 31) (u : Sto) : Ct E 1 0 yJ3_checkIndex_8e157 cJ3_checkIndex_8e157 3 (some .int) [.int (nI i), .int (nI m), .null] u (.inl (some (.int (nI i)))) u := by
  refine ct_ofF (by decide +kernel) (Nat.le_of_ble_eq_true rfl) (fun X h hR hrt htab hargs => ?_)
  refine g_iload_n h dJ3_checkIndex_8e157_0 rfl rfl ?_
  refine g_if_lt (tgt := 9) h dJ3_checkIndex_8e157_1 (by decide) (fun c1 => ?_) (fun c1 => ?_)
  · exact absurd (lt_n (b := 0) (by omega) (by omega) c1) (by omega)
  refine g_iload_n h dJ3_checkIndex_8e157_4 rfl rfl ?_
  refine g_iload_n h dJ3_checkIndex_8e157_5 rfl rfl ?_
  refine g_icmp_lt (tgt := 16) h dJ3_checkIndex_8e157_6 (by decide) (fun c6 => ?_) (fun c6 => ?_)
  · refine g_iload_n h dJ3_checkIndex_8e157_16 rfl rfl ?_
    exact g_iret h hrt dJ3_checkIndex_8e157_17 (by omega) rfl rfl
  · exact absurd (nlt_n (by omega) (by omega) c6) (by omega)
theorem c_J3_check1 {E : EE} (i m t : Nat) (hi : i < m) (hm : m < 2 ^ 31) (u : Sto) : Ct E 1 0 yJ3_checkIndex_8e157 cJ3_checkIndex_8e157 3 (some .int) [.int (nI i), .int (nI m), .ref t] u (.inl (some (.int (nI i)))) u := by
  refine ct_ofF (by decide +kernel) (Nat.le_of_ble_eq_true rfl) (fun X h hR hrt htab hargs => ?_)
  refine g_iload_n h dJ3_checkIndex_8e157_0 rfl rfl ?_
  refine g_if_lt (tgt := 9) h dJ3_checkIndex_8e157_1 (by decide) (fun c1 => ?_) (fun c1 => ?_)
  · exact absurd (lt_n (b := 0) (by omega) (by omega) c1) (by omega)
  refine g_iload_n h dJ3_checkIndex_8e157_4 rfl rfl ?_
  refine g_iload_n h dJ3_checkIndex_8e157_5 rfl rfl ?_
  refine g_icmp_lt (tgt := 16) h dJ3_checkIndex_8e157_6 (by decide) (fun c6 => ?_) (fun c6 => ?_)
  · refine g_iload_n h dJ3_checkIndex_8e157_16 rfl rfl ?_
    exact g_iret h hrt dJ3_checkIndex_8e157_17 (by omega) rfl rfl
  · exact absurd (nlt_n (by omega) (by omega) c6) (by omega)
theorem c_J0_check {E : EE} (i m : Nat) (hi : i < m) (hm : m < 2 ^ 31) (u : Sto) : Ct E 2 0 yJ0_checkIndex_df160 cJ0_checkIndex_df160 2 none [.int (nI i), .int (nI m)] u (.inl none) u := by
  refine ct_ofF (by decide +kernel) (Nat.le_of_ble_eq_true rfl) (fun X h hR hrt htab hargs => ?_)
  refine g_iload_n h dJ0_checkIndex_df160_0 rfl rfl ?_
  refine g_iload_n h dJ0_checkIndex_df160_1 rfl rfl ?_
  refine g_sio h dJ0_checkIndex_df160_2 ?_ (fun t => ?_)
  · refine g_S h ls_J0_1059 (c_J3_check0 i m hi hm _) (fitR hR (by decide) (by decide) (by omega)) rfl rfl (Nat.le_of_ble_eq_true rfl) dJ0_checkIndex_df160_5 ?_
    refine g_pop h dJ0_checkIndex_df160_8 rfl ?_
    exact g_vret h hrt dJ0_checkIndex_df160_9 (by omega) rfl rfl
  · refine g_S h ls_J0_1059 (c_J3_check1 i m t hi hm _) (fitR hR (by decide) (by decide) (by omega)) rfl rfl (Nat.le_of_ble_eq_true rfl) dJ0_checkIndex_df160_5 ?_
    refine g_pop h dJ0_checkIndex_df160_8 rfl ?_
    exact g_vret h hrt dJ0_checkIndex_df160_9 (by omega) rfl rfl
def strC (i j : Nat) : Int32 := (strByt.getD i []).getD j 0
theorem str_ok : ∀ i, i < 37 → strLen.getD i 0 < 30 ∧ ∀ j, j < strLen.getD i 0 → ((strC i j &&& nI 255).toUInt32 % 65536).toInt32 = strC i j ∧ (strC i j).toUInt32.toUInt16.toUInt32.toInt32 = strC i j ∧ ¬ strC i j < nI 32 ∧ strC i j ≤ nI 122 := by decide +kernel
theorem c_J1_charAt {E : EE} (i j : Nat) (hi : i < strN) (hj : j < strLen.getD i 0) (u : Sto) : Ct E 3 0 yJ1_charAt_3b067 cJ1_charAt_3b067 2 (some .char) [.ref (E.aV i), .int (nI j)] u (.inl (some (.int (strC i j)))) u := by
  have hl := (str_ok i hi).1
  have hz := (str_ok i hi).2 j hj
  refine ct_ofF (by decide +kernel) (Nat.le_of_ble_eq_true rfl) (fun X h hR hrt htab hargs => ?_)
  refine g_iload_n h dJ1_charAt_3b067_0 rfl rfl ?_
  refine g_aload_n h dJ1_charAt_3b067_1 rfl rfl ?_
  refine g_strL h hi dJ1_charAt_3b067_2 ?_
  refine g_S h ls_J1_9 (c_J0_check j _ hj (by omega) _) (fitR hR (by decide) (by decide) (by omega)) rfl rfl (Nat.le_of_ble_eq_true rfl) dJ1_charAt_3b067_3 ?_
  refine g_aload_n h dJ1_charAt_3b067_6 rfl rfl ?_
  refine g_iload_n h dJ1_charAt_3b067_7 rfl rfl ?_
  refine g_strB h hi hj (by omega) dJ1_charAt_3b067_8 ?_
  refine g_sipush (v := nI 255) h dJ1_charAt_3b067_9 (by decide) ?_
  refine g_iand h dJ1_charAt_3b067_12 ?_
  refine g_i2c h dJ1_charAt_3b067_13 ?_
  refine g_top (y := strC i j) hz.1 ?_
  exact g_nret h hrt (congrArg Value.int hz.2.1) dJ1_charAt_3b067_14 (by omega) rfl rfl
theorem c_J0_charAt {E : EE} (i j : Nat) (hi : i < strN) (hj : j < strLen.getD i 0) (u : Sto) : Ct E 4 0 yJ0_charAt_5068e cJ0_charAt_5068e 2 (some .char) [.ref (E.aK i), .int (nI j)] u (.inl (some (.int (strC i j)))) u := by
  have hz := (str_ok i hi).2 j hj
  refine ct_ofF (by decide +kernel) (Nat.le_of_ble_eq_true rfl) (fun X h hR hrt htab hargs => ?_)
  refine g_aload_n h dJ0_charAt_5068e_0 rfl rfl ?_
  refine g_VS h lv_J0_492_J0 hi (c_J0_isLatin1 i hi _) (fitR hR (by decide) (by decide) (by omega)) rfl rfl (Nat.le_of_ble_eq_true rfl) dJ0_charAt_5068e_1 ?_
  refine g_if_eq (tgt := 16) h dJ0_charAt_5068e_4 (by decide) (fun c4 => ?_) (fun c4 => ?_)
  · exact absurd c4 (by decide)
  refine g_aload_n h dJ0_charAt_5068e_7 rfl rfl ?_
  refine g_strV h hi dJ0_charAt_5068e_8 ?_
  refine g_iload_n h dJ0_charAt_5068e_11 rfl rfl ?_
  refine g_S h ls_J0_495 (c_J1_charAt i j hi hj _) (fitR hR (by decide) (by decide) (by omega)) rfl rfl (Nat.le_of_ble_eq_true rfl) dJ0_charAt_5068e_12 ?_
  exact g_nret h hrt (congrArg Value.int hz.2.1) dJ0_charAt_5068e_15 (by omega) rfl rfl
