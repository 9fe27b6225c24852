-- after: 88.ns
def cdL : List String → String → Nat
  | [], _ => 0
  | a :: t, e => if e = a then 1 else cdL t e + 1
theorem pm_v {cd : String → Nat} {s : Res} {u t : Sto} {x y : Int32} (h : s = .inl (some (.int y))) (hy : y = x) (ht : sim t (su u 178 0 (nI 0))) : PMr cd s u (.inl (some (.int x))) t := pm_k (by rw [h, hy]) ht
theorem tn_of {g : Nat → Int32} {v : Sto} {T W a k : Nat} (kt : LKt v 3 g) (kr : LKr v 10 g T W) (ha : a < T) (hk : k < 4) : tenV v a (nI k) = g (16 + 4 * a + k) := by
  have hT := kr.hT
  have : k = 0 ∨ k = 1 ∨ k = 2 ∨ k = 3 := by omega
  rcases this with rfl | rfl | rfl | rfl
  · rw [tenV, if_pos rfl]; exact (kt.con a (by omega)).symm
  · rw [tenV, if_neg (by decide), if_pos rfl, show 16 + 4 * a + 1 = 17 + 4 * a by omega]; exact (kr.lfr a ha).symm
  · rw [tenV, if_neg (by decide), if_neg (by decide), if_pos rfl, show 16 + 4 * a + 2 = 18 + 4 * a by omega]; exact (kr.lto a ha).symm
  · rw [tenV, if_neg (by decide), if_neg (by decide), if_neg (by decide), if_pos rfl, show 16 + 4 * a + 3 = 19 + 4 * a by omega]; exact (kr.mot a ha).symm
theorem rm_of {g : Nat → Int32} {v : Sto} {T W r k : Nat} (kt : LKt v 3 g) (kr : LKr v 10 g T W) (hr : r < 168) (hk : k < 4) : rooV v r (nI k) = g (88 + 4 * r + k) := by
  have : k = 0 ∨ k = 1 ∨ k = 2 ∨ k = 3 := by omega
  rcases this with rfl | rfl | rfl | rfl
  · rw [rooV, if_pos rfl]; exact (kt.own r hr).symm
  · rw [rooV, if_neg (by decide), if_pos rfl]; exact (lv_g kt hr).symm
  · rw [rooV, if_neg (by decide), if_neg (by decide), if_pos rfl]; exact (gd_g kt hr).symm
  · rw [rooV, if_neg (by decide), if_neg (by decide), if_neg (by decide), if_pos rfl]; exact (sh_g kr hr).symm
theorem LK.hT {v u : Sto} {T W : Nat} (h : LK v u T W) : T ≤ 10 := h.r.hT
theorem LK.own {v u : Sto} {T W r : Nat} (h : LK v u T W) (hr : r < 168) : u 179 (88 + 4 * r + 0) = v 4 r := h.t.own r hr
theorem LK.liv {v u : Sto} {T W r : Nat} (h : LK v u T W) (hr : r < 168) : u 179 (88 + 4 * r + 1) = lvT v 3 r := lv_g h.t hr
theorem LK.gds {v u : Sto} {T W r : Nat} (h : LK v u T W) (hr : r < 168) : u 179 (88 + 4 * r + 2) = v 6 r := gd_g h.t hr
theorem LK.sht {v u : Sto} {T W r : Nat} (h : LK v u T W) (hr : r < 168) : u 179 (88 + 4 * r + 3) = v 14 r := sh_g h.r hr
theorem LK.con {v u : Sto} {T W a : Nat} (h : LK v u T W) (ha : a < T) : u 179 (16 + 4 * a + 0) = v 7 a := h.t.con a (by have := h.hT; omega)
set_option maxHeartbeats 1000000 in
theorem c_X11_tenant {E : EE} (v : Sto) (T W : Nat) (x y : Int32) (u : Sto) (hK : LK v u T W) : CtP E 35 0 yX11_tenant cX11_tenant 3 (some .int) [.ref (E.ad 178), .int x, .int y] u (PMr (cdL [ioob, nsee]) (tenR v x y).1 u) := by
  refine ctp_of (by decide) (Nat.le_of_ble_eq_true rfl) (fun X h hR hrt htab hargs => ?_)
  refine g_aload_n h dX11_tenant_0 rfl rfl ?_
  refine g_aload_n h dX11_tenant_1 rfl rfl ?_
  refine g_iload_n h dX11_tenant_2 rfl rfl ?_
  refine g_V h lv_X11_277_X11 sh_178 (by decide) rfl (c_X11_isTenant x v T W u hK.r) (fitR hR (by first | decide | omega) (by decide) (by omega)) rfl rfl (Nat.le_of_ble_eq_true rfl) dX11_tenant_3 ?_
  by_cases n3 : okT v x
  · refine g_top (b2_t n3) ?_
    obtain ⟨a, ha, ha9, ia, rfl⟩ := okT_n hK.hT hK.r.vt n3
    refine g_if_ne (tgt := 13) h dX11_tenant_6 (by decide) (fun _ => ?_) (fun q => absurd q (by decide))
    refine g_iload_n h dX11_tenant_13 rfl rfl ?_
    refine g_iconst (v := nI 0) h dX11_tenant_14 (by decide) ?_
    refine g_bipush (v := nI 7) h dX11_tenant_15 (by decide) ?_
    refine g_S h ls_X11_72 (c_X11_isIn y (nI 0) (nI 7) u) (fitR hR (by first | decide | omega) (by decide) (by omega)) rfl rfl (Nat.le_of_ble_eq_true rfl) dX11_tenant_17 ?_
    by_cases n17 : okN y (nI 0) (nI 7)
    · refine g_top (b2_t n17) ?_
      obtain ⟨k, hk0, hk1, ik, rfl⟩ := okN_k (by decide) n17
      refine g_if_ne (tgt := 27) h dX11_tenant_20 (by decide) (fun _ => ?_) (fun q => absurd q (by decide))
      refine g_iconst (v := nI 0) h dX11_tenant_27 (by decide) ?_
      refine g_putI h pfl_X11_69_10 sh_178 (by decide) rfl dX11_tenant_28 ?_
      refine g_aload_n h dX11_tenant_31 rfl rfl ?_
      refine g_getI h fl_X11_69_10 sh_178 (by decide) rfl dX11_tenant_32 ?_
      refine g_top su_k ?_
      refine g_if_le (tgt := 40) h dX11_tenant_35 (by decide) (fun _ => ?_) (fun q => absurd q (by decide))
      refine g_iload_n h dX11_tenant_40 rfl rfl ?_
      refine g_iconst (v := nI 4) h dX11_tenant_41 (by decide) ?_
      refine g_icmp_ge (tgt := 52) h dX11_tenant_42 (by decide) (fun c42 => ?_) (fun c42 => ?_)
      · have n42 := le_n (by omega) (by omega) (show nI (4) ≤ nI (k) from c42)
        refine g_iload_n h dX11_tenant_52 rfl rfl ?_
        refine g_iconst (v := nI 4) h dX11_tenant_53 (by decide) ?_
        refine g_icmp_ne (tgt := 65) h dX11_tenant_54 (by decide) (fun c54 => ?_) (fun c54 => ?_)
        · have n54 := ne_n (show ¬ nI (k) = nI (4) from c54)
          refine g_iload_n h dX11_tenant_65 rfl rfl ?_
          refine g_iconst (v := nI 5) h dX11_tenant_66 (by decide) ?_
          refine g_icmp_ne (tgt := 78) h dX11_tenant_67 (by decide) (fun c67 => ?_) (fun c67 => ?_)
          · have n67 := ne_n (show ¬ nI (k) = nI (5) from c67)
            refine g_iload_n h dX11_tenant_78 rfl rfl ?_
            refine g_bipush (v := nI 6) h dX11_tenant_79 (by decide) ?_
            refine g_icmp_ne (tgt := 92) h dX11_tenant_81 (by decide) (fun c81 => ?_) (fun c81 => ?_)
            · have n81 := ne_n (show ¬ nI (k) = nI (6) from c81)
              refine g_aload_n h dX11_tenant_92 rfl rfl ?_
              refine g_iload_n h dX11_tenant_93 rfl rfl ?_
              refine g_V h lv_X11_286_X11 sh_178 (by decide) rfl (c_X11_goodsOf (nI a) v T W _ hK.th) (fitR hR (by first | decide | omega) (by decide) (by omega)) rfl rfl (Nat.le_of_ble_eq_true rfl) dX11_tenant_94 ?_
              exact g_iretP h hrt dX11_tenant_97 (by omega) (pm_v (by rw [tenR, if_pos n3, if_pos n17]) (by rw [ia, show k = 7 by omega]; rfl) (sim.refl _))
            · have n81 := eq_n (by omega) (by omega) (show nI (k) = nI (6) from c81)
              refine g_aload_n h dX11_tenant_84 rfl rfl ?_
              refine g_iload_n h dX11_tenant_85 rfl rfl ?_
              refine g_VP h lv_X11_283_X11 sh_178 (by decide) rfl (c_X11_rentsOf v T W a ha _ hK.th) ps_nx (fitR hR (by first | decide | omega) (by decide) (by omega)) rfl rfl (Nat.le_of_ble_eq_true rfl) dX11_tenant_86 (fun v86 u86 hs86 => ?_)
              obtain ⟨hv86, hs86⟩ := hs86
              cases hv86
              refine g_goto (tgt := 97) h dX11_tenant_89 (by decide) ?_
              exact g_iretP h hrt dX11_tenant_97 (by omega) (pm_v (by rw [tenR, if_pos n3, if_pos n17]) (by rw [ia, n81]; rfl) hs86)
          · have n67 := eq_n (by omega) (by omega) (show nI (k) = nI (5) from c67)
            refine g_aload_n h dX11_tenant_70 rfl rfl ?_
            refine g_iload_n h dX11_tenant_71 rfl rfl ?_
            refine g_V h lv_X11_280_X11 sh_178 (by decide) rfl (c_X11_livesOf a v T W ha _ hK.th.t hK.th.r) (fitR hR (by first | decide | omega) (by decide) (by omega)) rfl rfl (Nat.le_of_ble_eq_true rfl) dX11_tenant_72 ?_
            refine g_goto (tgt := 97) h dX11_tenant_75 (by decide) ?_
            exact g_iretP h hrt dX11_tenant_97 (by omega) (pm_v (by rw [tenR, if_pos n3, if_pos n17]) (by rw [ia, n67]; rfl) (sim.refl _))
        · have n54 := eq_n (by omega) (by omega) (show nI (k) = nI (4) from c54)
          refine g_aload_n h dX11_tenant_57 rfl rfl ?_
          refine g_iload_n h dX11_tenant_58 rfl rfl ?_
          refine g_V h lv_X11_267_X11 sh_178 (by decide) rfl (c_X11_ownsOf (nI a) v T W _ hK.th.t) (fitR hR (by first | decide | omega) (by decide) (by omega)) rfl rfl (Nat.le_of_ble_eq_true rfl) dX11_tenant_59 ?_
          refine g_top (hK.cnt a ha9).symm ?_
          refine g_goto (tgt := 97) h dX11_tenant_62 (by decide) ?_
          exact g_iretP h hrt dX11_tenant_97 (by omega) (pm_v (by rw [tenR, if_pos n3, if_pos n17]) (by rw [ia, n54]; rfl) (sim.refl _))
      · have n42 := nle_n (by omega) (by omega) (show ¬ nI (4) ≤ nI (k) from c42)
        refine g_aload_n h dX11_tenant_45 rfl rfl ?_
        refine g_iload_n h dX11_tenant_46 rfl rfl ?_
        refine g_iload_n h dX11_tenant_47 rfl rfl ?_
        refine g_V h lv_X11_76_X11 sh_178 (by decide) rfl (c_X11_of a k ha9 n42 _) (fitR hR (by first | decide | omega) (by decide) (by omega)) rfl rfl (Nat.le_of_ble_eq_true rfl) dX11_tenant_48 ?_
        exact g_iretP h hrt dX11_tenant_51 (by omega) (pm_v (by rw [tenR, if_pos n3, if_pos n17]) ((congrArg (fun z => tenV v z _) ia).trans ((tn_of hK.t hK.r ha n42).trans (congrFun (su_cell _ _ (by decide)).symm _))) (sim.refl _))
    · refine g_top (b2_f n17) ?_
      refine g_if_ne (tgt := 27) h dX11_tenant_20 (by decide) (fun q => absurd q (by decide)) (fun _ => ?_)
      refine g_iconst (v := nI 2) h dX11_tenant_23 (by decide) ?_
      refine g_goto (tgt := 28) h dX11_tenant_24 (by decide) ?_
      refine g_putI h pfl_X11_69_10 sh_178 (by decide) rfl dX11_tenant_28 ?_
      refine g_aload_n h dX11_tenant_31 rfl rfl ?_
      refine g_getI h fl_X11_69_10 sh_178 (by decide) rfl dX11_tenant_32 ?_
      refine g_top su_k ?_
      refine g_if_le (tgt := 40) h dX11_tenant_35 (by decide) (fun q => absurd q (by decide)) (fun _ => ?_)
      refine g_iconst (v := nI 0) h dX11_tenant_38 (by decide) ?_
      exact g_iretP h hrt dX11_tenant_39 (by omega) (by first | exact pm_x (Ex := ioob) (by rw [tenR, if_pos n3, if_neg n17]) (by decide) (sim.refl _) | exact pm_x (Ex := nsee) (by rw [tenR, if_pos n3, if_neg n17]) (by decide) (sim.refl _))
  · refine g_top (b2_f n3) ?_
    refine g_if_ne (tgt := 13) h dX11_tenant_6 (by decide) (fun q => absurd q (by decide)) (fun _ => ?_)
    refine g_iconst (v := nI 1) h dX11_tenant_9 (by decide) ?_
    refine g_goto (tgt := 28) h dX11_tenant_10 (by decide) ?_
    refine g_putI h pfl_X11_69_10 sh_178 (by decide) rfl dX11_tenant_28 ?_
    refine g_aload_n h dX11_tenant_31 rfl rfl ?_
    refine g_getI h fl_X11_69_10 sh_178 (by decide) rfl dX11_tenant_32 ?_
    refine g_top su_k ?_
    refine g_if_le (tgt := 40) h dX11_tenant_35 (by decide) (fun q => absurd q (by decide)) (fun _ => ?_)
    refine g_iconst (v := nI 0) h dX11_tenant_38 (by decide) ?_
    exact g_iretP h hrt dX11_tenant_39 (by omega) (by first | exact pm_x (Ex := ioob) (by rw [tenR, if_neg n3]) (by decide) (sim.refl _) | exact pm_x (Ex := nsee) (by rw [tenR, if_neg n3]) (by decide) (sim.refl _))
set_option maxHeartbeats 1000000 in
theorem c_X11_room {E : EE} (v : Sto) (T W : Nat) (y z : Int32) (u : Sto) (hK : LK v u T W) : CtP E 35 0 yX11_room cX11_room 3 (some .int) [.ref (E.ad 178), .int y, .int z] u (PMr (cdL [ioob, nsee]) (rooR v y z).1 u) := by
  refine ctp_of (by decide) (Nat.le_of_ble_eq_true rfl) (fun X h hR hrt htab hargs => ?_)
  refine g_aload_n h dX11_room_0 rfl rfl ?_
  refine g_iload_n h dX11_room_1 rfl rfl ?_
  refine g_S h ls_X11_289 (c_X11_isRoom y u) (fitR hR (by first | decide | omega) (by decide) (by omega)) rfl rfl (Nat.le_of_ble_eq_true rfl) dX11_room_2 ?_
  by_cases n2 : okR y
  · refine g_top (b2_t n2) ?_
    obtain ⟨r, hr, ir, rfl⟩ := okR_n n2
    refine g_if_ne (tgt := 12) h dX11_room_5 (by decide) (fun _ => ?_) (fun q => absurd q (by decide))
    refine g_iload_n h dX11_room_12 rfl rfl ?_
    refine g_iconst (v := nI 0) h dX11_room_13 (by decide) ?_
    refine g_iconst (v := nI 5) h dX11_room_14 (by decide) ?_
    refine g_S h ls_X11_72 (c_X11_isIn z (nI 0) (nI 5) u) (fitR hR (by first | decide | omega) (by decide) (by omega)) rfl rfl (Nat.le_of_ble_eq_true rfl) dX11_room_15 ?_
    by_cases n15 : okN z (nI 0) (nI 5)
    · refine g_top (b2_t n15) ?_
      obtain ⟨k, hk0, hk1, ik, rfl⟩ := okN_k (by decide) n15
      refine g_if_ne (tgt := 25) h dX11_room_18 (by decide) (fun _ => ?_) (fun q => absurd q (by decide))
      refine g_iconst (v := nI 0) h dX11_room_25 (by decide) ?_
      refine g_putI h pfl_X11_69_10 sh_178 (by decide) rfl dX11_room_26 ?_
      refine g_aload_n h dX11_room_29 rfl rfl ?_
      refine g_getI h fl_X11_69_10 sh_178 (by decide) rfl dX11_room_30 ?_
      refine g_top su_k ?_
      refine g_if_le (tgt := 38) h dX11_room_33 (by decide) (fun _ => ?_) (fun q => absurd q (by decide))
      refine g_iload_n h dX11_room_38 rfl rfl ?_
      refine g_iconst (v := nI 4) h dX11_room_39 (by decide) ?_
      refine g_icmp_ge (tgt := 52) h dX11_room_40 (by decide) (fun c40 => ?_) (fun c40 => ?_)
      · have n40 := le_n (by omega) (by omega) (show nI (4) ≤ nI (k) from c40)
        refine g_iload_n h dX11_room_52 rfl rfl ?_
        refine g_iconst (v := nI 4) h dX11_room_53 (by decide) ?_
        refine g_icmp_ne (tgt := 67) h dX11_room_54 (by decide) (fun c54 => ?_) (fun c54 => ?_)
        · have n54 := ne_n (show ¬ nI (k) = nI (4) from c54)
          refine g_aload_n h dX11_room_67 rfl rfl ?_
          refine g_iload_n h dX11_room_68 rfl rfl ?_
          refine g_iconst (v := nI 1) h dX11_room_69 (by decide) ?_
          refine g_iadd h dX11_room_70 ?_
          refine g_V h lv_X11_264_X11 sh_178 (by decide) rfl (c_X11_livesIn (nI r + nI 1) (r + 169) (lwy hr) (by omega) v T W _ hK.th.t) (fitR hR (by first | decide | omega) (by decide) (by omega)) rfl rfl (Nat.le_of_ble_eq_true rfl) dX11_room_71 ?_
          refine g_top (congrArg (lvT v 3) (aft_k hr)) ?_
          exact g_iretP h hrt dX11_room_74 (by omega) (pm_v (by rw [rooR, if_pos n2, if_pos n15]) (by rw [ir, show k = 5 by omega]; rfl) (sim.refl _))
        · have n54 := eq_n (by omega) (by omega) (show nI (k) = nI (4) from c54)
          refine g_aload_n h dX11_room_57 rfl rfl ?_
          refine g_iload_n h dX11_room_58 rfl rfl ?_
          refine g_iconst (v := nI 1) h dX11_room_59 (by decide) ?_
          refine g_isub h dX11_room_60 ?_
          refine g_V h lv_X11_264_X11 sh_178 (by decide) rfl (c_X11_livesIn (nI r - nI 1) (r + 167) (lwx hr) (by omega) v T W _ hK.th.t) (fitR hR (by first | decide | omega) (by decide) (by omega)) rfl rfl (Nat.le_of_ble_eq_true rfl) dX11_room_61 ?_
          refine g_top (congrArg (lvT v 3) (bef_k hr)) ?_
          refine g_goto (tgt := 74) h dX11_room_64 (by decide) ?_
          exact g_iretP h hrt dX11_room_74 (by omega) (pm_v (by rw [rooR, if_pos n2, if_pos n15]) (by rw [ir, n54]; rfl) (sim.refl _))
      · have n40 := nle_n (by omega) (by omega) (show ¬ nI (4) ≤ nI (k) from c40)
        refine g_aload_n h dX11_room_43 rfl rfl ?_
        refine g_iload_n h dX11_room_44 rfl rfl ?_
        refine g_iload_n h dX11_room_45 rfl rfl ?_
        refine g_V h lv_X11_84_X11 sh_178 (by decide) rfl (c_X11_ofRoom r k hr n40 _) (fitR hR (by first | decide | omega) (by decide) (by omega)) rfl rfl (Nat.le_of_ble_eq_true rfl) dX11_room_46 ?_
        refine g_goto (tgt := 74) h dX11_room_49 (by decide) ?_
        exact g_iretP h hrt dX11_room_74 (by omega) (pm_v (by rw [rooR, if_pos n2, if_pos n15]) ((congrArg (fun z => rooV v z _) ir).trans ((rm_of hK.t hK.r hr n40).trans (congrFun (su_cell _ _ (by decide)).symm _))) (sim.refl _))
    · refine g_top (b2_f n15) ?_
      refine g_if_ne (tgt := 25) h dX11_room_18 (by decide) (fun q => absurd q (by decide)) (fun _ => ?_)
      refine g_iconst (v := nI 2) h dX11_room_21 (by decide) ?_
      refine g_goto (tgt := 26) h dX11_room_22 (by decide) ?_
      refine g_putI h pfl_X11_69_10 sh_178 (by decide) rfl dX11_room_26 ?_
      refine g_aload_n h dX11_room_29 rfl rfl ?_
      refine g_getI h fl_X11_69_10 sh_178 (by decide) rfl dX11_room_30 ?_
      refine g_top su_k ?_
      refine g_if_le (tgt := 38) h dX11_room_33 (by decide) (fun q => absurd q (by decide)) (fun _ => ?_)
      refine g_iconst (v := nI 0) h dX11_room_36 (by decide) ?_
      exact g_iretP h hrt dX11_room_37 (by omega) (by first | exact pm_x (Ex := ioob) (by rw [rooR, if_pos n2, if_neg n15]) (by decide) (sim.refl _) | exact pm_x (Ex := nsee) (by rw [rooR, if_pos n2, if_neg n15]) (by decide) (sim.refl _))
  · refine g_top (b2_f n2) ?_
    refine g_if_ne (tgt := 12) h dX11_room_5 (by decide) (fun q => absurd q (by decide)) (fun _ => ?_)
    refine g_iconst (v := nI 1) h dX11_room_8 (by decide) ?_
    refine g_goto (tgt := 26) h dX11_room_9 (by decide) ?_
    refine g_putI h pfl_X11_69_10 sh_178 (by decide) rfl dX11_room_26 ?_
    refine g_aload_n h dX11_room_29 rfl rfl ?_
    refine g_getI h fl_X11_69_10 sh_178 (by decide) rfl dX11_room_30 ?_
    refine g_top su_k ?_
    refine g_if_le (tgt := 38) h dX11_room_33 (by decide) (fun q => absurd q (by decide)) (fun _ => ?_)
    refine g_iconst (v := nI 0) h dX11_room_36 (by decide) ?_
    exact g_iretP h hrt dX11_room_37 (by omega) (by first | exact pm_x (Ex := ioob) (by rw [rooR, if_neg n2]) (by decide) (sim.refl _) | exact pm_x (Ex := nsee) (by rw [rooR, if_neg n2]) (by decide) (sim.refl _))
set_option maxHeartbeats 1000000 in
theorem c_X11_rule {E : EE} (v : Sto) (T W : Nat) (x y z : Int32) (u : Sto) (hK : LK v u T W) : CtP E 35 0 yX11_rule cX11_rule 4 (some .int) [.ref (E.ad 178), .int x, .int y, .int z] u (PMr (cdL [ioob, nsee]) (rulR v x y z).1 u) := by
  refine ctp_of (by decide) (Nat.le_of_ble_eq_true rfl) (fun X h hR hrt htab hargs => ?_)
  refine g_aload_n h dX11_rule_0 rfl rfl ?_
  refine g_aload_n h dX11_rule_1 rfl rfl ?_
  refine g_iload_n h dX11_rule_2 rfl rfl ?_
  refine g_V h lv_X11_277_X11 sh_178 (by decide) rfl (c_X11_isTenant x v T W u hK.r) (fitR hR (by first | decide | omega) (by decide) (by omega)) rfl rfl (Nat.le_of_ble_eq_true rfl) dX11_rule_3 ?_
  by_cases n3 : okT v x
  · refine g_top (b2_t n3) ?_
    obtain ⟨a, ha, ha9, ia, rfl⟩ := okT_n hK.hT hK.r.vt n3
    refine g_if_eq (tgt := 16) h dX11_rule_6 (by decide) (fun q => absurd q (by decide)) (fun _ => ?_)
    refine g_iload_n h dX11_rule_9 rfl rfl ?_
    refine g_S h ls_X11_289 (c_X11_isRoom y u) (fitR hR (by first | decide | omega) (by decide) (by omega)) rfl rfl (Nat.le_of_ble_eq_true rfl) dX11_rule_10 ?_
    by_cases n10 : okR y
    · refine g_top (b2_t n10) ?_
      obtain ⟨r, hr, ir, rfl⟩ := okR_n n10
      refine g_if_ne (tgt := 20) h dX11_rule_13 (by decide) (fun _ => ?_) (fun q => absurd q (by decide))
      refine g_iload_n h dX11_rule_20 rfl rfl ?_
      refine g_iconst (v := nI 0) h dX11_rule_21 (by decide) ?_
      refine g_iconst (v := nI 2) h dX11_rule_22 (by decide) ?_
      refine g_S h ls_X11_72 (c_X11_isIn z (nI 0) (nI 2) u) (fitR hR (by first | decide | omega) (by decide) (by omega)) rfl rfl (Nat.le_of_ble_eq_true rfl) dX11_rule_23 ?_
      by_cases n23 : okN z (nI 0) (nI 2)
      · refine g_top (b2_t n23) ?_
        refine g_if_ne (tgt := 33) h dX11_rule_26 (by decide) (fun _ => ?_) (fun q => absurd q (by decide))
        refine g_iconst (v := nI 0) h dX11_rule_33 (by decide) ?_
        refine g_putI h pfl_X11_69_10 sh_178 (by decide) rfl dX11_rule_34 ?_
        refine g_aload_n h dX11_rule_37 rfl rfl ?_
        refine g_getI h fl_X11_69_10 sh_178 (by decide) rfl dX11_rule_38 ?_
        refine g_top su_k ?_
        refine g_if_gt (tgt := 52) h dX11_rule_41 (by decide) (fun q => absurd q (by decide)) (fun _ => ?_)
        refine g_aload_n h dX11_rule_44 rfl rfl ?_
        refine g_iload_n h dX11_rule_45 rfl rfl ?_
        refine g_V h lv_X11_80_X11 sh_178 (by decide) rfl (c_X11_isChild a v T W ha _ hK.th.r) (fitR hR (by first | decide | omega) (by decide) (by omega)) rfl rfl (Nat.le_of_ble_eq_true rfl) dX11_rule_46 ?_
        by_cases n46 : v 13 a = -1
        · refine g_top (b2_f (fun q => q n46)) ?_
          refine g_if_eq (tgt := 54) h dX11_rule_49 (by decide) (fun _ => ?_) (fun q => absurd q (by decide))
          refine g_aload_n h dX11_rule_54 rfl rfl ?_
          refine g_iload_n h dX11_rule_55 rfl rfl ?_
          refine g_iload_n h dX11_rule_56 rfl rfl ?_
          refine g_VP h lv_X11_270_X11 sh_178 (by decide) rfl (c_X11_asks v T W a r ha hr _ hK.th) qa_nx (fitR hR (by first | decide | omega) (by decide) (by omega)) rfl rfl (Nat.le_of_ble_eq_true rfl) dX11_rule_57 (fun v57 u57 hs57 => ?_)
          obtain ⟨hv57, hs57, ha17, ha18, ha19⟩ := hs57
          · cases hv57
            refine g_iload_n h dX11_rule_60 rfl rfl ?_
            refine g_if_ne (tgt := 79) h dX11_rule_61 (by decide) (fun c61 => ?_) (fun c61 => ?_)
            · refine g_iload_n h dX11_rule_79 rfl rfl ?_
              refine g_iconst (v := nI 1) h dX11_rule_80 (by decide) ?_
              refine g_icmp_ne (tgt := 91) h dX11_rule_81 (by decide) (fun c81 => ?_) (fun c81 => ?_)
              · refine g_aload_n h dX11_rule_91 rfl rfl ?_
                refine g_getI h fl_X11_262_10 sh_178 (by decide) rfl dX11_rule_92 ?_
                refine g_top ha19 ?_
                exact g_iretP h hrt dX11_rule_95 (by omega) (pm_v (by rw [rulR, if_pos n3, if_pos n10, if_pos n23]) (by rw [ia, ir, rulV, if_neg (fun q => q n46), if_neg c61, if_neg c81]) hs57)
              · refine g_aload_n h dX11_rule_84 rfl rfl ?_
                refine g_getI h fl_X11_260_10 sh_178 (by decide) rfl dX11_rule_85 ?_
                refine g_top ha18 ?_
                refine g_goto (tgt := 95) h dX11_rule_88 (by decide) ?_
                exact g_iretP h hrt dX11_rule_95 (by omega) (pm_v (by rw [rulR, if_pos n3, if_pos n10, if_pos n23]) (by rw [ia, ir, rulV, if_neg (fun q => q n46), if_neg c61, if_pos c81]) hs57)
            · refine g_aload_n h dX11_rule_64 rfl rfl ?_
              refine g_getI h fl_X11_257_10 sh_178 (by decide) rfl dX11_rule_65 ?_
              refine g_top ha17 ?_
              refine g_if_eq (tgt := 75) h dX11_rule_68 (by decide) (fun c68 => ?_) (fun c68 => ?_)
              · refine g_iconst (v := nI 0) h dX11_rule_75 (by decide) ?_
                refine g_goto (tgt := 95) h dX11_rule_76 (by decide) ?_
                exact g_iretP h hrt dX11_rule_95 (by omega) (pm_v (by rw [rulR, if_pos n3, if_pos n10, if_pos n23]) (by rw [ia, ir, rulV, if_neg (fun q => q n46), if_pos c61, b2_f (b2_0.mp c68)]) hs57)
              · refine g_iconst (v := nI 1) h dX11_rule_71 (by decide) ?_
                refine g_goto (tgt := 95) h dX11_rule_72 (by decide) ?_
                exact g_iretP h hrt dX11_rule_95 (by omega) (pm_v (by rw [rulR, if_pos n3, if_pos n10, if_pos n23]) (by rw [ia, ir, rulV, if_neg (fun q => q n46), if_pos c61, b2_t (b2_n0.mp c68)]) hs57)
        · refine g_top (b2_t n46) ?_
          refine g_if_eq (tgt := 54) h dX11_rule_49 (by decide) (fun q => absurd q (by decide)) (fun _ => ?_)
          refine g_iconst (v := nI 0) h dX11_rule_52 (by decide) ?_
          exact g_iretP h hrt dX11_rule_53 (by omega) (by first | exact pm_v (by rw [rulR, if_pos n3, if_pos n10, if_pos n23]) (by rw [ia, ir, rulV, if_pos n46]) (sim.refl _) | exact pm_x (Ex := ioob) (by rw [rulR, if_pos n3, if_pos n10, if_pos n23]) (by decide) (sim.refl _) | exact pm_x (Ex := nsee) (by rw [rulR, if_pos n3, if_pos n10, if_pos n23]) (by decide) (sim.refl _))
      · refine g_top (b2_f n23) ?_
        refine g_if_ne (tgt := 33) h dX11_rule_26 (by decide) (fun q => absurd q (by decide)) (fun _ => ?_)
        refine g_iconst (v := nI 2) h dX11_rule_29 (by decide) ?_
        refine g_goto (tgt := 34) h dX11_rule_30 (by decide) ?_
        refine g_putI h pfl_X11_69_10 sh_178 (by decide) rfl dX11_rule_34 ?_
        refine g_aload_n h dX11_rule_37 rfl rfl ?_
        refine g_getI h fl_X11_69_10 sh_178 (by decide) rfl dX11_rule_38 ?_
        refine g_top su_k ?_
        refine g_if_gt (tgt := 52) h dX11_rule_41 (by decide) (fun _ => ?_) (fun q => absurd q (by decide))
        refine g_iconst (v := nI 0) h dX11_rule_52 (by decide) ?_
        exact g_iretP h hrt dX11_rule_53 (by omega) (by first | exact pm_v (by rw [rulR, if_pos n3, if_pos n10, if_neg n23]) (by rw [ia, ir, rulV, if_pos n46]) (sim.refl _) | exact pm_x (Ex := ioob) (by rw [rulR, if_pos n3, if_pos n10, if_neg n23]) (by decide) (sim.refl _) | exact pm_x (Ex := nsee) (by rw [rulR, if_pos n3, if_pos n10, if_neg n23]) (by decide) (sim.refl _))
    · refine g_top (b2_f n10) ?_
      refine g_if_ne (tgt := 20) h dX11_rule_13 (by decide) (fun q => absurd q (by decide)) (fun _ => ?_)
      refine g_iconst (v := nI 1) h dX11_rule_16 (by decide) ?_
      refine g_goto (tgt := 34) h dX11_rule_17 (by decide) ?_
      refine g_putI h pfl_X11_69_10 sh_178 (by decide) rfl dX11_rule_34 ?_
      refine g_aload_n h dX11_rule_37 rfl rfl ?_
      refine g_getI h fl_X11_69_10 sh_178 (by decide) rfl dX11_rule_38 ?_
      refine g_top su_k ?_
      refine g_if_gt (tgt := 52) h dX11_rule_41 (by decide) (fun _ => ?_) (fun q => absurd q (by decide))
      refine g_iconst (v := nI 0) h dX11_rule_52 (by decide) ?_
      exact g_iretP h hrt dX11_rule_53 (by omega) (by first | exact pm_v (by rw [rulR, if_pos n3, if_neg n10]) (by rw [ia, ir, rulV, if_pos n46]) (sim.refl _) | exact pm_x (Ex := ioob) (by rw [rulR, if_pos n3, if_neg n10]) (by decide) (sim.refl _) | exact pm_x (Ex := nsee) (by rw [rulR, if_pos n3, if_neg n10]) (by decide) (sim.refl _))
  · refine g_top (b2_f n3) ?_
    refine g_if_eq (tgt := 16) h dX11_rule_6 (by decide) (fun _ => ?_) (fun q => absurd q (by decide))
    refine g_iconst (v := nI 1) h dX11_rule_16 (by decide) ?_
    refine g_goto (tgt := 34) h dX11_rule_17 (by decide) ?_
    refine g_putI h pfl_X11_69_10 sh_178 (by decide) rfl dX11_rule_34 ?_
    refine g_aload_n h dX11_rule_37 rfl rfl ?_
    refine g_getI h fl_X11_69_10 sh_178 (by decide) rfl dX11_rule_38 ?_
    refine g_top su_k ?_
    refine g_if_gt (tgt := 52) h dX11_rule_41 (by decide) (fun _ => ?_) (fun q => absurd q (by decide))
    refine g_iconst (v := nI 0) h dX11_rule_52 (by decide) ?_
    exact g_iretP h hrt dX11_rule_53 (by omega) (by first | exact pm_v (by rw [rulR, if_neg n3]) (by rw [ia, ir, rulV, if_pos n46]) (sim.refl _) | exact pm_x (Ex := ioob) (by rw [rulR, if_neg n3]) (by decide) (sim.refl _) | exact pm_x (Ex := nsee) (by rw [rulR, if_neg n3]) (by decide) (sim.refl _))
