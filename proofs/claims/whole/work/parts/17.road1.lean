def w_X4_append (N : Nat) (vxL : Int32) (vxY : Nat → Int32) (x1 : Int32) (post : Int32 → (Nat → Int32) → Prop) : Prop :=
  (((4001 : Int32) ≤ vxL → post vxL vxY) ∧ (¬ ((4001 : Int32) ≤ vxL) → vp_in vxL 4001 ∧ post (vxL + (1 : Int32)) (upd vxY vxL.toNatClampNeg x1)))
abbrev rm_X4_append : Room := { frames := 0, cells := 0, slots := 0, locals := 0 }
set_option maxHeartbeats 4000000 in
set_option maxRecDepth 100000 in
theorem k_X4_append (l : Launch) (G : va_G) (cI cJ cZ : ClassId) (aX aY aS aR aE aC aF aT aK aH aW aA aQ aU : Nat) (sz N : Nat) (vxL : Int32) (vxY : Nat → Int32) (vsB : Int32) (vrN : Int32) (vrA : Int32) (vrE : Nat → Int32) (vrC : Nat → Int32) (vrF : Nat → Int32) (vtN : Int32) (vtK : Nat → Int32) (vhN : Int32) (vhW : Nat → Int64) (vhA : Nat → Int32) (vsQ : Nat → Int32) (vsU : Nat → Int32) (x1 : Int32) (post : Int32 → (Nat → Int32) → Prop) (hw : w_X4_append N vxL vxY x1 post) : Met l yX4_append wsX4_append rm_X4_append (kPc G (tyL cI cJ cZ) [.ref aX, .int x1] sz (wdX cI cJ cZ aX aY aS aR aE aC aF aT aK aH aW aA aQ aU vxL vxY vsB vrN vrA vrE vrC vrF vtN vtK vhN vhW vhA vsQ vsU)) (va_Qv (fun (u : Int32 × (Nat → Int32)) => post u.1 u.2) (kB G (tyL cI cJ cZ) (va_A (wdX cI cJ cZ aX aY aS aR aE aC aF aT aK aH aW aA aQ aU vxL vxY vsB vrN vrA vrE vrC vrF vtN vtK vhN vhW vhA vsQ vsU) sz) (fun (u : Int32 × (Nat → Int32)) => wdX cI cJ cZ aX aY aS aR aE aC aF aT aK aH aW aA aQ aU u.1 u.2 vsB vrN vrA vrE vrC vrF vtN vtK vhN vhW vhA vsQ vsU)) (va_A (wdX cI cJ cZ aX aY aS aR aE aC aF aT aK aH aW aA aQ aU vxL vxY vsB vrN vrA vrE vrC vrF vtN vtK vhN vhW vhA vsQ vsU) sz)) 0 0 (va_A (wdX cI cJ cZ aX aY aS aR aE aC aF aT aK aH aW aA aQ aU vxL vxY vsB vrN vrA vrE vrC vrF vtN vtK vhN vhW vhA vsQ vsU) sz) := by
  refine km_v (cc := cX4_append) (maxL := 2) (by decide) rfl (Nat.le_of_ble_eq_true rfl) ?_
  intro p e s m below meth c A Q ls hx hb hml hts hown hnm hK hN hA hP hD hS hl hret
  replace hown : s.vm.findClass RX4 = some m.cls := hown
  replace hl : lv_has ls 2 [(0, .ref aX), (1, .int x1)] := hl
  unfold w_X4_append at hw
  refine lv_aload_n hx hb dX4_append_0 rfl (lv_at hl 0 rfl) ?_
  refine va_get (D := G) (ci := 4) (v := .int vxL) (C := RX4) (T := TX4) (N := 5) hx hb hts (fun _ h => List.mem_cons_of_mem _ (List.mem_append_right _ h)) hown hK hP 0 rfl rfl 4 (by decide) (hts _ (List.mem_of_getElem? (i := 1) rfl)) (fun _ h9 => h9) rfl dX4_append_1 ?_
  refine lv_aload_n hx hb dX4_append_4 rfl (lv_at hl 0 rfl) ?_
  refine va_get (D := G) (ci := 4) (v := .ref aY) (C := RX4) (T := TX4) (N := 5) hx hb hts (fun _ h => List.mem_cons_of_mem _ (List.mem_append_right _ h)) hown hK hP 0 rfl rfl 3 (by decide) (hts _ (List.mem_of_getElem? (i := 2) rfl)) (fun _ h9 => h9) rfl dX4_append_5 ?_
  refine va_alen (v := (4001 : Int32)) hx hb hK hP 1 0 rfl rfl rfl dX4_append_8 ?_
  refine lv_icmp_ge (tgt := 32) hx hb dX4_append_9 (by decide) (fun c_1 => ?_) (fun c_1 => ?_)
  · replace hw := hw.1 c_1
    exact hret 32 (vxL, vxY) _ _ _ dX4_append_32 hw hP hD hS
  · replace hw := hw.2 c_1
    refine lv_aload_n hx hb dX4_append_12 rfl (lv_at hl 0 rfl) ?_
    refine va_get (D := G) (ci := 4) (v := .ref aY) (C := RX4) (T := TX4) (N := 5) hx hb hts (fun _ h => List.mem_cons_of_mem _ (List.mem_append_right _ h)) hown hK hP 0 rfl rfl 3 (by decide) (hts _ (List.mem_of_getElem? (i := 2) rfl)) (fun _ h9 => h9) rfl dX4_append_13 ?_
    refine lv_aload_n hx hb dX4_append_16 rfl (lv_at hl 0 rfl) ?_
    refine va_get (D := G) (ci := 4) (v := .int vxL) (C := RX4) (T := TX4) (N := 5) hx hb hts (fun _ h => List.mem_cons_of_mem _ (List.mem_append_right _ h)) hown hK hP 0 rfl rfl 4 (by decide) (hts _ (List.mem_of_getElem? (i := 1) rfl)) (fun _ h9 => h9) rfl dX4_append_17 ?_
    refine lv_iload_n hx hb dX4_append_20 rfl (lv_at hl 1 rfl) ?_
    have h_2 := hw.1
    replace hw := hw.2
    refine va_iast hx hb hK hP hD hS 1 0 rfl rfl h_2 dX4_append_21 (fun H locs hP hD hS => ?_)
    replace hP : va_P G vwCl (wdX cI cJ cZ aX aY aS aR aE aC aF aT aK aH aW aA aQ aU vxL (upd vxY vxL.toNatClampNeg x1) vsB vrN vrA vrE vrC vrF vtN vtK vhN vhW vhA vsQ vsU) H := hP
    replace hD : va_D A (wdX cI cJ cZ aX aY aS aR aE aC aF aT aK aH aW aA aQ aU vxL (upd vxY vxL.toNatClampNeg x1) vsB vrN vrA vrE vrC vrF vtN vtK vhN vhW vhA vsQ vsU) := hD
    refine lv_aload_n hx hb dX4_append_22 rfl (lv_at hl 0 rfl) ?_
    refine lv_dup hx hb dX4_append_23 rfl ?_
    refine va_get (D := G) (ci := 4) (v := .int vxL) (C := RX4) (T := TX4) (N := 5) hx hb hts (fun _ h => List.mem_cons_of_mem _ (List.mem_append_right _ h)) hown hK hP 0 rfl rfl 4 (by decide) (hts _ (List.mem_of_getElem? (i := 1) rfl)) (fun _ h9 => h9) rfl dX4_append_24 ?_
    refine lv_iconst (v := (1 : Int32)) hx hb dX4_append_27 (by decide) ?_
    refine lv_iadd hx hb dX4_append_28 ?_
    refine va_put (D := G) (ci := 4) (v := .int (vxL + (1 : Int32))) (ty := .int) (C := RX4) (T := TX4) (N := 5) hx hb hts (fun _ h => List.mem_cons_of_mem _ (List.mem_append_right _ h)) tyX4 tyX4_ok nmX4 hown hK hP hD hS 0 rfl rfl 4 (by decide) (hts _ (List.mem_of_getElem? (i := 1) rfl)) (fun _ h9 => h9) rfl (by decide +kernel) rfl rfl (Nat.le_of_ble_eq_true rfl) dX4_append_29 (fun H locs hP hD hS => ?_)
    replace hP : va_P G vwCl (wdX cI cJ cZ aX aY aS aR aE aC aF aT aK aH aW aA aQ aU (vxL + (1 : Int32)) (upd vxY vxL.toNatClampNeg x1) vsB vrN vrA vrE vrC vrF vtN vtK vhN vhW vhA vsQ vsU) H := hP
    replace hD : va_D A (wdX cI cJ cZ aX aY aS aR aE aC aF aT aK aH aW aA aQ aU (vxL + (1 : Int32)) (upd vxY vxL.toNatClampNeg x1) vsB vrN vrA vrE vrC vrF vtN vtK vhN vhW vhA vsQ vsU) := hD
    exact hret 32 ((vxL + (1 : Int32)), (upd vxY vxL.toNatClampNeg x1)) _ _ _ dX4_append_32 hw hP hD hS
def w_X4_size (N : Nat) (vxL : Int32) (vrN : Int32) (vrA : Int32) (vrF : Nat → Int32) (vtN : Int32) (x1 : Int32) (post : Int32 → Int32 → Int32 → Int32 → (Nat → Int32) → Int32 → Prop) : Prop :=
  ((x1 < (1 : Int32) → post (0 : Int32) vxL vrN vrA vrF vtN) ∧ (¬ (x1 < (1 : Int32)) → ((x1 ≤ (300 : Int32) → w_X1_reset N vrN vrA vrF x1 (fun vrN_4 vrA_5 vrF_6 => w_X3_reset N vtN (fun vtN_8 => post (1 : Int32) (0 : Int32) vrN_4 vrA_5 vrF_6 vtN_8))) ∧ (¬ (x1 ≤ (300 : Int32)) → post (0 : Int32) vxL vrN vrA vrF vtN))))
abbrev rm_X4_size : Room := { frames := 1, cells := 0, slots := 0, locals := 22 }
set_option maxHeartbeats 4000000 in
set_option maxRecDepth 100000 in
theorem k_X4_size (l : Launch) (G : va_G) (cI cJ cZ : ClassId) (aX aY aS aR aE aC aF aT aK aH aW aA aQ aU : Nat) (sz N : Nat) (vxL : Int32) (vxY : Nat → Int32) (vsB : Int32) (vrN : Int32) (vrA : Int32) (vrE : Nat → Int32) (vrC : Nat → Int32) (vrF : Nat → Int32) (vtN : Int32) (vtK : Nat → Int32) (vhN : Int32) (vhW : Nat → Int64) (vhA : Nat → Int32) (vsQ : Nat → Int32) (vsU : Nat → Int32) (x1 : Int32) (post : Int32 → Int32 → Int32 → Int32 → (Nat → Int32) → Int32 → Prop) (hw : w_X4_size N vxL vrN vrA vrF vtN x1 post) : Met l yX4_size wsX4_size rm_X4_size (kPc G (tyL cI cJ cZ) [.ref aX, .int x1] sz (wdX cI cJ cZ aX aY aS aR aE aC aF aT aK aH aW aA aQ aU vxL vxY vsB vrN vrA vrE vrC vrF vtN vtK vhN vhW vhA vsQ vsU)) (va_Qi (fun (r : Int32) (u : Int32 × Int32 × Int32 × (Nat → Int32) × Int32) => post r u.1 u.2.1 u.2.2.1 u.2.2.2.1 u.2.2.2.2) (kB G (tyL cI cJ cZ) (va_A (wdX cI cJ cZ aX aY aS aR aE aC aF aT aK aH aW aA aQ aU vxL vxY vsB vrN vrA vrE vrC vrF vtN vtK vhN vhW vhA vsQ vsU) sz) (fun (u : Int32 × Int32 × Int32 × (Nat → Int32) × Int32) => wdX cI cJ cZ aX aY aS aR aE aC aF aT aK aH aW aA aQ aU u.1 vxY vsB u.2.1 u.2.2.1 vrE vrC u.2.2.2.1 u.2.2.2.2 vtK vhN vhW vhA vsQ vsU)) (va_A (wdX cI cJ cZ aX aY aS aR aE aC aF aT aK aH aW aA aQ aU vxL vxY vsB vrN vrA vrE vrC vrF vtN vtK vhN vhW vhA vsQ vsU) sz)) 0 0 (va_A (wdX cI cJ cZ aX aY aS aR aE aC aF aT aK aH aW aA aQ aU vxL vxY vsB vrN vrA vrE vrC vrF vtN vtK vhN vhW vhA vsQ vsU) sz) := by
  refine km_z (cc := cX4_size) (maxL := 2) (by decide) rfl (Nat.le_of_ble_eq_true rfl) ?_
  intro p e s m below meth c A Q ls hx hb hml hts hown hnm hK hN hA hP hD hS hl hret
  replace hown : s.vm.findClass RX4 = some m.cls := hown
  replace hl : lv_has ls 2 [(0, .ref aX), (1, .int x1)] := hl
  unfold w_X4_size at hw
  refine lv_iload_n hx hb dX4_size_0 rfl (lv_at hl 1 rfl) ?_
  refine lv_iconst (v := (1 : Int32)) hx hb dX4_size_1 (by decide) ?_
  refine lv_icmp_lt (tgt := 12) hx hb dX4_size_2 (by decide) (fun c_1 => ?_) (fun c_1 => ?_)
  · replace hw := hw.1 c_1
    refine lv_iconst (v := (0 : Int32)) hx hb dX4_size_12 (by decide) ?_
    exact hret 13 (0 : Int32) (vxL, vrN, vrA, vrF, vtN) _ _ _ dX4_size_13 rfl hw hP hD hS
  · replace hw := hw.2 c_1
    refine lv_iload_n hx hb dX4_size_5 rfl (lv_at hl 1 rfl) ?_
    refine lv_sipush (v := (300 : Int32)) hx hb dX4_size_6 (by decide) ?_
    refine lv_icmp_le (tgt := 14) hx hb dX4_size_9 (by decide) (fun c_2 => ?_) (fun c_2 => ?_)
    · replace hw := hw.1 c_2
      refine lv_aload_n hx hb dX4_size_14 rfl (lv_at hl 0 rfl) ?_
      refine va_get (D := G) (ci := 4) (v := .ref aR) (C := RX4) (T := TX4) (N := 5) hx hb hts (fun _ h => List.mem_cons_of_mem _ (List.mem_append_left _ (List.mem_append_left _ (List.mem_append_right _ h)))) hown hK hP 0 rfl rfl 0 (by decide) (hts _ (List.mem_of_getElem? (i := 1) rfl)) (fun _ h9 => h9) rfl dX4_size_15 ?_
      refine lv_iload_n hx hb dX4_size_18 rfl (lv_at hl 1 rfl) ?_
      refine kc_Vv (As := [.int x1]) (rest := []) (wc := wdR cI cJ cZ aR aE aC aF vrN vrA vrE vrC vrF) (wr := [(aX, .inr (4, [.ref aR, .ref aT, .ref aS, .ref aY, .int vxL])), (aY, .inl (cI, 4001, .inl vxY)), (aS, .inr (2, [.ref aR, .ref aT, .ref aW, .ref aH, .ref aQ, .ref aU, .int vsB])), (aT, .inr (3, [.int vtN, .ref aK])), (aK, .inl (cI, 200, .inl vtK)), (aH, .inr (0, [.ref aW, .ref aA, .int vhN])), (aW, .inl (cJ, 4000, .inr (.inl vhW))), (aA, .inl (cI, 4000, .inl vhA)), (aQ, .inl (cI, 4000, .inl vsQ)), (aU, .inl (cI, 300, .inl vsU))]) ⟨hx, hb, hml, hown, hts⟩ (cwV 1 hts gX4_size_X1_reset rfl rfl rfl (by decide +kernel) ⟨Nat.le_of_ble_eq_true rfl, Nat.le_of_ble_eq_true rfl⟩) hK hN hA hP hD hS [3, 4, 5, 6] [0, 1, 2, 7, 8, 9, 10, 11, 12, 13] rfl rfl (by decide) (by decide) (by decide) 0 rfl rfl (k_X1_reset l G cI cJ cZ aR aE aC aF _ N vrN vrA vrE vrC vrF x1 _ hw) rfl hl.1 rfl (Nat.le_of_ble_eq_true rfl) dX4_size_19 ⟨Nat.le_of_ble_eq_true rfl, Nat.le_of_ble_eq_true rfl⟩ (fun u_ H locs hw hP hD hS => ?_)
      obtain ⟨vrN_4, vrA_5, vrF_6⟩ := u_
      replace hP : va_P G vwCl (wdX cI cJ cZ aX aY aS aR aE aC aF aT aK aH aW aA aQ aU vxL vxY vsB vrN_4 vrA_5 vrE vrC vrF_6 vtN vtK vhN vhW vhA vsQ vsU) H := hP.sub [0, 1, 2, 10, 11, 12, 13, 3, 4, 5, 6, 7, 8, 9] rfl
      replace hD : va_D A (wdX cI cJ cZ aX aY aS aR aE aC aF aT aK aH aW aA aQ aU vxL vxY vsB vrN_4 vrA_5 vrE vrC vrF_6 vtN vtK vhN vhW vhA vsQ vsU) := hD.sub [0, 1, 2, 10, 11, 12, 13, 3, 4, 5, 6, 7, 8, 9] (by decide) rfl
      refine lv_aload_n hx hb dX4_size_22 rfl (lv_at hl 0 rfl) ?_
      refine va_get (D := G) (ci := 4) (v := .ref aT) (C := RX4) (T := TX4) (N := 5) hx hb hts (fun _ h => List.mem_cons_of_mem _ (List.mem_append_left _ (List.mem_append_left _ (List.mem_append_right _ h)))) hown hK hP 0 rfl rfl 1 (by decide) (hts _ (List.mem_of_getElem? (i := 2) rfl)) (fun _ h9 => h9) rfl dX4_size_23 ?_
      refine kc_Vv (As := []) (rest := []) (wc := wdT cI cJ cZ aT aK vtN vtK) (wr := [(aX, .inr (4, [.ref aR, .ref aT, .ref aS, .ref aY, .int vxL])), (aY, .inl (cI, 4001, .inl vxY)), (aS, .inr (2, [.ref aR, .ref aT, .ref aW, .ref aH, .ref aQ, .ref aU, .int vsB])), (aR, .inr (1, [.int vrN_4, .int vrA_5, .ref aE, .ref aC, .ref aF])), (aE, .inl (cI, 4000, .inl vrE)), (aC, .inl (cI, 4000, .inl vrC)), (aF, .inl (cI, 301, .inl vrF_6)), (aH, .inr (0, [.ref aW, .ref aA, .int vhN])), (aW, .inl (cJ, 4000, .inr (.inl vhW))), (aA, .inl (cI, 4000, .inl vhA)), (aQ, .inl (cI, 4000, .inl vsQ)), (aU, .inl (cI, 300, .inl vsU))]) ⟨hx, hb, hml, hown, hts⟩ (cwV 0 hts gX4_size_X3_reset rfl rfl rfl (by decide +kernel) ⟨Nat.le_of_ble_eq_true rfl, Nat.le_of_ble_eq_true rfl⟩) hK hN hA hP hD hS [7, 8] [0, 1, 2, 3, 4, 5, 6, 9, 10, 11, 12, 13] rfl rfl (by decide) (by decide) (by decide) 0 rfl rfl (k_X3_reset l G cI cJ cZ aT aK _ N vtN vtK  _ hw) rfl hl.1 rfl (Nat.le_of_ble_eq_true rfl) dX4_size_26 ⟨Nat.le_of_ble_eq_true rfl, Nat.le_of_ble_eq_true rfl⟩ (fun u_ H locs hw hP hD hS => ?_)
      obtain ⟨vtN_8, hu_⟩ : ∃ z, z = u_ := ⟨_, rfl⟩
      subst hu_
      replace hP : va_P G vwCl (wdX cI cJ cZ aX aY aS aR aE aC aF aT aK aH aW aA aQ aU vxL vxY vsB vrN_4 vrA_5 vrE vrC vrF_6 vtN_8 vtK vhN vhW vhA vsQ vsU) H := hP.sub [0, 1, 2, 3, 4, 5, 6, 12, 13, 7, 8, 9, 10, 11] rfl
      replace hD : va_D A (wdX cI cJ cZ aX aY aS aR aE aC aF aT aK aH aW aA aQ aU vxL vxY vsB vrN_4 vrA_5 vrE vrC vrF_6 vtN_8 vtK vhN vhW vhA vsQ vsU) := hD.sub [0, 1, 2, 3, 4, 5, 6, 12, 13, 7, 8, 9, 10, 11] (by decide) rfl
      refine lv_aload_n hx hb dX4_size_29 rfl (lv_at hl 0 rfl) ?_
      refine lv_iconst (v := (0 : Int32)) hx hb dX4_size_30 (by decide) ?_
      refine va_put (D := G) (ci := 4) (v := .int (0 : Int32)) (ty := .int) (C := RX4) (T := TX4) (N := 5) hx hb hts (fun _ h => List.mem_cons_of_mem _ (List.mem_append_left _ (List.mem_append_left _ (List.mem_append_right _ h)))) tyX4 tyX4_ok nmX4 hown hK hP hD hS 0 rfl rfl 4 (by decide) (hts _ (List.mem_of_getElem? (i := 3) rfl)) (fun _ h9 => h9) rfl (by decide +kernel) rfl rfl (Nat.le_of_ble_eq_true rfl) dX4_size_31 (fun H locs hP hD hS => ?_)
      replace hP : va_P G vwCl (wdX cI cJ cZ aX aY aS aR aE aC aF aT aK aH aW aA aQ aU (0 : Int32) vxY vsB vrN_4 vrA_5 vrE vrC vrF_6 vtN_8 vtK vhN vhW vhA vsQ vsU) H := hP
      replace hD : va_D A (wdX cI cJ cZ aX aY aS aR aE aC aF aT aK aH aW aA aQ aU (0 : Int32) vxY vsB vrN_4 vrA_5 vrE vrC vrF_6 vtN_8 vtK vhN vhW vhA vsQ vsU) := hD
      refine lv_iconst (v := (1 : Int32)) hx hb dX4_size_34 (by decide) ?_
      exact hret 35 (1 : Int32) ((0 : Int32), vrN_4, vrA_5, vrF_6, vtN_8) _ _ _ dX4_size_35 rfl hw hP hD hS
    · replace hw := hw.2 c_2
      refine lv_iconst (v := (0 : Int32)) hx hb dX4_size_12 (by decide) ?_
      exact hret 13 (0 : Int32) (vxL, vrN, vrA, vrF, vtN) _ _ _ dX4_size_13 rfl hw hP hD hS
def w_X4_road_b76 (N : Nat) (vrN : Int32) (post : Int32 → Int32 → (Nat → Int32) → (Nat → Int32) → (Nat → Int32) → Prop) (vrA_b76 : Int32) (vrE_b76 : Nat → Int32) (vrC_b76 : Nat → Int32) (vrF_b76 : Nat → Int32) (y1_b76 : Int32) (y2_b76 : Int32) (y3_b76 : Int32) : Prop :=
  w_X1_change N vrN vrE_b76 vrC_b76 vrF_b76 y1_b76 y2_b76 y3_b76 (fun vrC_20 => w_X1_count N vrA_b76 (fun r_21 => post r_21 vrA_b76 vrE_b76 vrC_20 vrF_b76))
def w_X4_road (N : Nat) (vrN : Int32) (vrA : Int32) (vrE : Nat → Int32) (vrC : Nat → Int32) (vrF : Nat → Int32) (x1 : Int32) (x2 : Int32) (x3 : Int32) (post : Int32 → Int32 → (Nat → Int32) → (Nat → Int32) → (Nat → Int32) → Prop) : Prop :=
  w_X1_hasNode N vrN x1 (fun r_1 => ((r_1 = (0 : Int32) → post (-14 : Int32) vrA vrE vrC vrF) ∧ (¬ (r_1 = (0 : Int32)) → w_X1_hasNode N vrN x2 (fun r_3 => ((r_3 = (0 : Int32) → post (-14 : Int32) vrA vrE vrC vrF) ∧ (¬ (r_3 = (0 : Int32)) → ((¬ x1 = x2 → ((x3 < (1 : Int32) → post (-1 : Int32) vrA vrE vrC vrF) ∧ (¬ (x3 < (1 : Int32)) → ((x3 ≤ (1000000000 : Int32) → w_X1_signedCost N vrN vrE vrC vrF x1 x2 (fun r_8 => ((r_8 = (0 : Int32) → w_X1_count N vrA (fun r_10 => ((r_10 < (2000 : Int32) → w_X1_add N vrA vrE vrC vrF x1 x2 x3 (fun vrA_13 vrE_14 vrC_15 vrF_16 => w_X1_count N vrA_13 (fun r_17 => post r_17 vrA_13 vrE_14 vrC_15 vrF_16))) ∧ (¬ (r_10 < (2000 : Int32)) → post (-12 : Int32) vrA vrE vrC vrF)))) ∧ (¬ (r_8 = (0 : Int32)) → (((0 : Int32) ≤ r_8 → w_X4_road_b76 N vrN post vrA vrE vrC vrF x1 x2 x3) ∧ (¬ ((0 : Int32) ≤ r_8) → w_X4_road_b76 N vrN post vrA vrE vrC vrF x1 x2 (-x3))))))) ∧ (¬ (x3 ≤ (1000000000 : Int32)) → post (-1 : Int32) vrA vrE vrC vrF))))) ∧ (x1 = x2 → post (-14 : Int32) vrA vrE vrC vrF))))))))
abbrev rm_X4_road : Room := { frames := 4, cells := 0, slots := 0, locals := 111 }
set_option maxHeartbeats 4000000 in
set_option maxRecDepth 100000 in
theorem k_X4_road (l : Launch) (G : va_G) (cI cJ cZ : ClassId) (aX aY aS aR aE aC aF aT aK aH aW aA aQ aU : Nat) (sz N : Nat) (vxL : Int32) (vxY : Nat → Int32) (vsB : Int32) (vrN : Int32) (vrA : Int32) (vrE : Nat → Int32) (vrC : Nat → Int32) (vrF : Nat → Int32) (vtN : Int32) (vtK : Nat → Int32) (vhN : Int32) (vhW : Nat → Int64) (vhA : Nat → Int32) (vsQ : Nat → Int32) (vsU : Nat → Int32) (x1 : Int32) (x2 : Int32) (x3 : Int32) (post : Int32 → Int32 → (Nat → Int32) → (Nat → Int32) → (Nat → Int32) → Prop) (hw : w_X4_road N vrN vrA vrE vrC vrF x1 x2 x3 post) : Met l yX4_road wsX4_road rm_X4_road (kPc G (tyL cI cJ cZ) [.ref aX, .int x1, .int x2, .int x3] sz (wdX cI cJ cZ aX aY aS aR aE aC aF aT aK aH aW aA aQ aU vxL vxY vsB vrN vrA vrE vrC vrF vtN vtK vhN vhW vhA vsQ vsU)) (va_Qi (fun (r : Int32) (u : Int32 × (Nat → Int32) × (Nat → Int32) × (Nat → Int32)) => post r u.1 u.2.1 u.2.2.1 u.2.2.2) (kB G (tyL cI cJ cZ) (va_A (wdX cI cJ cZ aX aY aS aR aE aC aF aT aK aH aW aA aQ aU vxL vxY vsB vrN vrA vrE vrC vrF vtN vtK vhN vhW vhA vsQ vsU) sz) (fun (u : Int32 × (Nat → Int32) × (Nat → Int32) × (Nat → Int32)) => wdX cI cJ cZ aX aY aS aR aE aC aF aT aK aH aW aA aQ aU vxL vxY vsB vrN u.1 u.2.1 u.2.2.1 u.2.2.2 vtN vtK vhN vhW vhA vsQ vsU)) (va_A (wdX cI cJ cZ aX aY aS aR aE aC aF aT aK aH aW aA aQ aU vxL vxY vsB vrN vrA vrE vrC vrF vtN vtK vhN vhW vhA vsQ vsU) sz)) 0 0 (va_A (wdX cI cJ cZ aX aY aS aR aE aC aF aT aK aH aW aA aQ aU vxL vxY vsB vrN vrA vrE vrC vrF vtN vtK vhN vhW vhA vsQ vsU) sz) := by
  refine km_i (cc := cX4_road) (maxL := 5) (by decide) rfl (Nat.le_of_ble_eq_true rfl) ?_
  intro p e s m below meth c A Q ls hx hb hml hts hown hnm hK hN hA hP hD hS hl hret
  replace hown : s.vm.findClass RX4 = some m.cls := hown
  replace hl : lv_has ls 5 [(0, .ref aX), (1, .int x1), (2, .int x2), (3, .int x3)] := hl
  have b76 : ∀ (vrA_b76 : Int32) (vrE_b76 : Nat → Int32) (vrC_b76 : Nat → Int32) (vrF_b76 : Nat → Int32) (y1_b76 : Int32) (y2_b76 : Int32) (y3_b76 : Int32) (H : Heap) (locs : List Loc) (ls : Array Slot), w_X4_road_b76 N vrN post vrA_b76 vrE_b76 vrC_b76 vrF_b76 y1_b76 y2_b76 y3_b76 → va_P G vwCl (wdX cI cJ cZ aX aY aS aR aE aC aF aT aK aH aW aA aQ aU vxL vxY vsB vrN vrA_b76 vrE_b76 vrC_b76 vrF_b76 vtN vtK vhN vhW vhA vsQ vsU) H → va_D A (wdX cI cJ cZ aX aY aS aR aE aC aF aT aK aH aW aA aQ aU vxL vxY vsB vrN vrA_b76 vrE_b76 vrC_b76 vrF_b76 vtN vtK vhN vhW vhA vsQ vsU) → va_S A s.heap H locs → lv_has ls 5 [(0, .ref aX)] → W p l e rm_X4_road s m ([.ref aX, .int x1, .int x2, .int x3] : List Value).toArray below meth c H locs 0 0 Q (F0 m 76 ls [.int y3_b76, .int y2_b76, .int y1_b76, .ref aR]) := by
    intro vrA_b76 vrE_b76 vrC_b76 vrF_b76 y1_b76 y2_b76 y3_b76 H locs ls hw hP hD hS hl
    unfold w_X4_road_b76 at hw
    refine kc_Vv (As := [.int y1_b76, .int y2_b76, .int y3_b76]) (rest := []) (wc := wdR cI cJ cZ aR aE aC aF vrN vrA_b76 vrE_b76 vrC_b76 vrF_b76) (wr := [(aX, .inr (4, [.ref aR, .ref aT, .ref aS, .ref aY, .int vxL])), (aY, .inl (cI, 4001, .inl vxY)), (aS, .inr (2, [.ref aR, .ref aT, .ref aW, .ref aH, .ref aQ, .ref aU, .int vsB])), (aT, .inr (3, [.int vtN, .ref aK])), (aK, .inl (cI, 200, .inl vtK)), (aH, .inr (0, [.ref aW, .ref aA, .int vhN])), (aW, .inl (cJ, 4000, .inr (.inl vhW))), (aA, .inl (cI, 4000, .inl vhA)), (aQ, .inl (cI, 4000, .inl vsQ)), (aU, .inl (cI, 300, .inl vsU))]) ⟨hx, hb, hml, hown, hts⟩ (cwV 3 hts gX4_road_X1_change rfl rfl rfl (by decide +kernel) ⟨Nat.le_of_ble_eq_true rfl, Nat.le_of_ble_eq_true rfl⟩) hK hN hA hP hD hS [3, 4, 5, 6] [0, 1, 2, 7, 8, 9, 10, 11, 12, 13] rfl rfl (by decide) (by decide) (by decide) 0 rfl rfl (k_X1_change l G cI cJ cZ aR aE aC aF _ N vrN vrA_b76 vrE_b76 vrC_b76 vrF_b76 y1_b76 y2_b76 y3_b76 _ hw) rfl hl.1 rfl (Nat.le_of_ble_eq_true rfl) dX4_road_76 ⟨Nat.le_of_ble_eq_true rfl, Nat.le_of_ble_eq_true rfl⟩ (fun u_ H locs hw hP hD hS => ?_)
    obtain ⟨vrC_20, hu_⟩ : ∃ z, z = u_ := ⟨_, rfl⟩
    subst hu_
    replace hP : va_P G vwCl (wdX cI cJ cZ aX aY aS aR aE aC aF aT aK aH aW aA aQ aU vxL vxY vsB vrN vrA_b76 vrE_b76 vrC_20 vrF_b76 vtN vtK vhN vhW vhA vsQ vsU) H := hP.sub [0, 1, 2, 10, 11, 12, 13, 3, 4, 5, 6, 7, 8, 9] rfl
    replace hD : va_D A (wdX cI cJ cZ aX aY aS aR aE aC aF aT aK aH aW aA aQ aU vxL vxY vsB vrN vrA_b76 vrE_b76 vrC_20 vrF_b76 vtN vtK vhN vhW vhA vsQ vsU) := hD.sub [0, 1, 2, 10, 11, 12, 13, 3, 4, 5, 6, 7, 8, 9] (by decide) rfl
    refine lv_aload_n hx hb dX4_road_79 rfl (lv_at hl 0 rfl) ?_
    refine va_get (D := G) (ci := 4) (v := .ref aR) (C := RX4) (T := TX4) (N := 5) hx hb hts (fun _ h => List.mem_cons_of_mem _ (List.mem_append_left _ (List.mem_append_right _ h))) hown hK hP 0 rfl rfl 0 (by decide) (hts _ (List.mem_of_getElem? (i := 1) rfl)) (fun _ h9 => h9) rfl dX4_road_80 ?_
    refine kc_Vi (As := []) (rest := []) (wc := wdR cI cJ cZ aR aE aC aF vrN vrA_b76 vrE_b76 vrC_20 vrF_b76) (wr := [(aX, .inr (4, [.ref aR, .ref aT, .ref aS, .ref aY, .int vxL])), (aY, .inl (cI, 4001, .inl vxY)), (aS, .inr (2, [.ref aR, .ref aT, .ref aW, .ref aH, .ref aQ, .ref aU, .int vsB])), (aT, .inr (3, [.int vtN, .ref aK])), (aK, .inl (cI, 200, .inl vtK)), (aH, .inr (0, [.ref aW, .ref aA, .int vhN])), (aW, .inl (cJ, 4000, .inr (.inl vhW))), (aA, .inl (cI, 4000, .inl vhA)), (aQ, .inl (cI, 4000, .inl vsQ)), (aU, .inl (cI, 300, .inl vsU))]) ⟨hx, hb, hml, hown, hts⟩ (cwV 0 hts gX4_road_X1_count rfl rfl rfl (by decide +kernel) ⟨Nat.le_of_ble_eq_true rfl, Nat.le_of_ble_eq_true rfl⟩) hK hN hA hP hD hS [3, 4, 5, 6] [0, 1, 2, 7, 8, 9, 10, 11, 12, 13] rfl rfl (by decide) (by decide) (by decide) 0 rfl rfl (k_X1_count l G cI cJ cZ aR aE aC aF _ N vrN vrA_b76 vrE_b76 vrC_20 vrF_b76  _ hw) rfl hl.1 rfl (Nat.le_of_ble_eq_true rfl) dX4_road_83 ⟨Nat.le_of_ble_eq_true rfl, Nat.le_of_ble_eq_true rfl⟩ (fun r_21 u_ H locs hw hP hD hS => ?_)
    replace hP : va_P G vwCl (wdX cI cJ cZ aX aY aS aR aE aC aF aT aK aH aW aA aQ aU vxL vxY vsB vrN vrA_b76 vrE_b76 vrC_20 vrF_b76 vtN vtK vhN vhW vhA vsQ vsU) H := hP.sub [0, 1, 2, 10, 11, 12, 13, 3, 4, 5, 6, 7, 8, 9] rfl
    replace hD : va_D A (wdX cI cJ cZ aX aY aS aR aE aC aF aT aK aH aW aA aQ aU vxL vxY vsB vrN vrA_b76 vrE_b76 vrC_20 vrF_b76 vtN vtK vhN vhW vhA vsQ vsU) := hD.sub [0, 1, 2, 10, 11, 12, 13, 3, 4, 5, 6, 7, 8, 9] (by decide) rfl
    exact hret 86 r_21 (vrA_b76, vrE_b76, vrC_20, vrF_b76) _ _ _ dX4_road_86 hw hP hD hS
  unfold w_X4_road at hw
  refine lv_aload_n hx hb dX4_road_0 rfl (lv_at hl 0 rfl) ?_
  refine va_get (D := G) (ci := 4) (v := .ref aR) (C := RX4) (T := TX4) (N := 5) hx hb hts (fun _ h => List.mem_cons_of_mem _ (List.mem_append_left _ (List.mem_append_right _ h))) hown hK hP 0 rfl rfl 0 (by decide) (hts _ (List.mem_of_getElem? (i := 1) rfl)) (fun _ h9 => h9) rfl dX4_road_1 ?_
  refine lv_iload_n hx hb dX4_road_4 rfl (lv_at hl 1 rfl) ?_
  refine kc_Vi (As := [.int x1]) (rest := []) (wc := wdR cI cJ cZ aR aE aC aF vrN vrA vrE vrC vrF) (wr := [(aX, .inr (4, [.ref aR, .ref aT, .ref aS, .ref aY, .int vxL])), (aY, .inl (cI, 4001, .inl vxY)), (aS, .inr (2, [.ref aR, .ref aT, .ref aW, .ref aH, .ref aQ, .ref aU, .int vsB])), (aT, .inr (3, [.int vtN, .ref aK])), (aK, .inl (cI, 200, .inl vtK)), (aH, .inr (0, [.ref aW, .ref aA, .int vhN])), (aW, .inl (cJ, 4000, .inr (.inl vhW))), (aA, .inl (cI, 4000, .inl vhA)), (aQ, .inl (cI, 4000, .inl vsQ)), (aU, .inl (cI, 300, .inl vsU))]) ⟨hx, hb, hml, hown, hts⟩ (cwV 1 hts gX4_road_X1_hasNode rfl rfl rfl (by decide +kernel) ⟨Nat.le_of_ble_eq_true rfl, Nat.le_of_ble_eq_true rfl⟩) hK hN hA hP hD hS [3, 4, 5, 6] [0, 1, 2, 7, 8, 9, 10, 11, 12, 13] rfl rfl (by decide) (by decide) (by decide) 0 rfl rfl (k_X1_hasNode l G cI cJ cZ aR aE aC aF _ N vrN vrA vrE vrC vrF x1 _ hw) rfl hl.1 rfl (Nat.le_of_ble_eq_true rfl) dX4_road_5 ⟨Nat.le_of_ble_eq_true rfl, Nat.le_of_ble_eq_true rfl⟩ (fun r_1 u_ H locs hw hP hD hS => ?_)
  replace hP : va_P G vwCl (wdX cI cJ cZ aX aY aS aR aE aC aF aT aK aH aW aA aQ aU vxL vxY vsB vrN vrA vrE vrC vrF vtN vtK vhN vhW vhA vsQ vsU) H := hP.sub [0, 1, 2, 10, 11, 12, 13, 3, 4, 5, 6, 7, 8, 9] rfl
  replace hD : va_D A (wdX cI cJ cZ aX aY aS aR aE aC aF aT aK aH aW aA aQ aU vxL vxY vsB vrN vrA vrE vrC vrF vtN vtK vhN vhW vhA vsQ vsU) := hD.sub [0, 1, 2, 10, 11, 12, 13, 3, 4, 5, 6, 7, 8, 9] (by decide) rfl
  refine lv_if_eq (tgt := 27) hx hb dX4_road_8 (by decide) (fun c_2 => ?_) (fun c_2 => ?_)
  · replace hw := hw.1 c_2
    refine lv_bipush (v := (-14 : Int32)) hx hb dX4_road_27 (by decide) ?_
    exact hret 29 (-14 : Int32) (vrA, vrE, vrC, vrF) _ _ _ dX4_road_29 hw hP hD hS
  · replace hw := hw.2 c_2
    refine lv_aload_n hx hb dX4_road_11 rfl (lv_at hl 0 rfl) ?_
    refine va_get (D := G) (ci := 4) (v := .ref aR) (C := RX4) (T := TX4) (N := 5) hx hb hts (fun _ h => List.mem_cons_of_mem _ (List.mem_append_left _ (List.mem_append_right _ h))) hown hK hP 0 rfl rfl 0 (by decide) (hts _ (List.mem_of_getElem? (i := 1) rfl)) (fun _ h9 => h9) rfl dX4_road_12 ?_
    refine lv_iload_n hx hb dX4_road_15 rfl (lv_at hl 2 rfl) ?_
    refine kc_Vi (As := [.int x2]) (rest := []) (wc := wdR cI cJ cZ aR aE aC aF vrN vrA vrE vrC vrF) (wr := [(aX, .inr (4, [.ref aR, .ref aT, .ref aS, .ref aY, .int vxL])), (aY, .inl (cI, 4001, .inl vxY)), (aS, .inr (2, [.ref aR, .ref aT, .ref aW, .ref aH, .ref aQ, .ref aU, .int vsB])), (aT, .inr (3, [.int vtN, .ref aK])), (aK, .inl (cI, 200, .inl vtK)), (aH, .inr (0, [.ref aW, .ref aA, .int vhN])), (aW, .inl (cJ, 4000, .inr (.inl vhW))), (aA, .inl (cI, 4000, .inl vhA)), (aQ, .inl (cI, 4000, .inl vsQ)), (aU, .inl (cI, 300, .inl vsU))]) ⟨hx, hb, hml, hown, hts⟩ (cwV 1 hts gX4_road_X1_hasNode rfl rfl rfl (by decide +kernel) ⟨Nat.le_of_ble_eq_true rfl, Nat.le_of_ble_eq_true rfl⟩) hK hN hA hP hD hS [3, 4, 5, 6] [0, 1, 2, 7, 8, 9, 10, 11, 12, 13] rfl rfl (by decide) (by decide) (by decide) 0 rfl rfl (k_X1_hasNode l G cI cJ cZ aR aE aC aF _ N vrN vrA vrE vrC vrF x2 _ hw) rfl hl.1 rfl (Nat.le_of_ble_eq_true rfl) dX4_road_16 ⟨Nat.le_of_ble_eq_true rfl, Nat.le_of_ble_eq_true rfl⟩ (fun r_3 u_ H locs hw hP hD hS => ?_)
    replace hP : va_P G vwCl (wdX cI cJ cZ aX aY aS aR aE aC aF aT aK aH aW aA aQ aU vxL vxY vsB vrN vrA vrE vrC vrF vtN vtK vhN vhW vhA vsQ vsU) H := hP.sub [0, 1, 2, 10, 11, 12, 13, 3, 4, 5, 6, 7, 8, 9] rfl
    replace hD : va_D A (wdX cI cJ cZ aX aY aS aR aE aC aF aT aK aH aW aA aQ aU vxL vxY vsB vrN vrA vrE vrC vrF vtN vtK vhN vhW vhA vsQ vsU) := hD.sub [0, 1, 2, 10, 11, 12, 13, 3, 4, 5, 6, 7, 8, 9] (by decide) rfl
    refine lv_if_eq (tgt := 27) hx hb dX4_road_19 (by decide) (fun c_4 => ?_) (fun c_4 => ?_)
    · replace hw := hw.1 c_4
      refine lv_bipush (v := (-14 : Int32)) hx hb dX4_road_27 (by decide) ?_
      exact hret 29 (-14 : Int32) (vrA, vrE, vrC, vrF) _ _ _ dX4_road_29 hw hP hD hS
    · replace hw := hw.2 c_4
      refine lv_iload_n hx hb dX4_road_22 rfl (lv_at hl 1 rfl) ?_
      refine lv_iload_n hx hb dX4_road_23 rfl (lv_at hl 2 rfl) ?_
      refine lv_icmp_ne (tgt := 30) hx hb dX4_road_24 (by decide) (fun c_5 => ?_) (fun c_5 => ?_)
      · replace hw := hw.1 c_5
        refine lv_iload_n hx hb dX4_road_30 rfl (lv_at hl 3 rfl) ?_
        refine lv_iconst (v := (1 : Int32)) hx hb dX4_road_31 (by decide) ?_
        refine lv_icmp_lt (tgt := 41) hx hb dX4_road_32 (by decide) (fun c_6 => ?_) (fun c_6 => ?_)
        · replace hw := hw.1 c_6
          refine lv_iconst (v := (-1 : Int32)) hx hb dX4_road_41 (by decide) ?_
          exact hret 42 (-1 : Int32) (vrA, vrE, vrC, vrF) _ _ _ dX4_road_42 hw hP hD hS
        · replace hw := hw.2 c_6
          refine lv_iload_n hx hb dX4_road_35 rfl (lv_at hl 3 rfl) ?_
          refine lv_ldc (v := (1000000000 : Int32)) hx hb hown (hts _ (List.mem_of_getElem? (i := 2) rfl)) dX4_road_36 ?_
          refine lv_icmp_le (tgt := 43) hx hb dX4_road_38 (by decide) (fun c_7 => ?_) (fun c_7 => ?_)
          · replace hw := hw.1 c_7
            refine lv_aload_n hx hb dX4_road_43 rfl (lv_at hl 0 rfl) ?_
            refine va_get (D := G) (ci := 4) (v := .ref aR) (C := RX4) (T := TX4) (N := 5) hx hb hts (fun _ h => List.mem_cons_of_mem _ (List.mem_append_left _ (List.mem_append_right _ h))) hown hK hP 0 rfl rfl 0 (by decide) (hts _ (List.mem_of_getElem? (i := 1) rfl)) (fun _ h9 => h9) rfl dX4_road_44 ?_
            refine lv_iload_n hx hb dX4_road_47 rfl (lv_at hl 1 rfl) ?_
            refine lv_iload_n hx hb dX4_road_48 rfl (lv_at hl 2 rfl) ?_
            refine kc_Vi (As := [.int x1, .int x2]) (rest := []) (wc := wdR cI cJ cZ aR aE aC aF vrN vrA vrE vrC vrF) (wr := [(aX, .inr (4, [.ref aR, .ref aT, .ref aS, .ref aY, .int vxL])), (aY, .inl (cI, 4001, .inl vxY)), (aS, .inr (2, [.ref aR, .ref aT, .ref aW, .ref aH, .ref aQ, .ref aU, .int vsB])), (aT, .inr (3, [.int vtN, .ref aK])), (aK, .inl (cI, 200, .inl vtK)), (aH, .inr (0, [.ref aW, .ref aA, .int vhN])), (aW, .inl (cJ, 4000, .inr (.inl vhW))), (aA, .inl (cI, 4000, .inl vhA)), (aQ, .inl (cI, 4000, .inl vsQ)), (aU, .inl (cI, 300, .inl vsU))]) ⟨hx, hb, hml, hown, hts⟩ (cwV 2 hts gX4_road_X1_signedCost rfl rfl rfl (by decide +kernel) ⟨Nat.le_of_ble_eq_true rfl, Nat.le_of_ble_eq_true rfl⟩) hK hN hA hP hD hS [3, 4, 5, 6] [0, 1, 2, 7, 8, 9, 10, 11, 12, 13] rfl rfl (by decide) (by decide) (by decide) 0 rfl rfl (k_X1_signedCost l G cI cJ cZ aR aE aC aF _ N vrN vrA vrE vrC vrF x1 x2 _ hw) rfl hl.1 rfl (Nat.le_of_ble_eq_true rfl) dX4_road_49 ⟨Nat.le_of_ble_eq_true rfl, Nat.le_of_ble_eq_true rfl⟩ (fun r_8 u_ H locs hw hP hD hS => ?_)
            replace hP : va_P G vwCl (wdX cI cJ cZ aX aY aS aR aE aC aF aT aK aH aW aA aQ aU vxL vxY vsB vrN vrA vrE vrC vrF vtN vtK vhN vhW vhA vsQ vsU) H := hP.sub [0, 1, 2, 10, 11, 12, 13, 3, 4, 5, 6, 7, 8, 9] rfl
            replace hD : va_D A (wdX cI cJ cZ aX aY aS aR aE aC aF aT aK aH aW aA aQ aU vxL vxY vsB vrN vrA vrE vrC vrF vtN vtK vhN vhW vhA vsQ vsU) := hD.sub [0, 1, 2, 10, 11, 12, 13, 3, 4, 5, 6, 7, 8, 9] (by decide) rfl
            refine lv_istore (lv' := [(4, .int r_8), (0, .ref aX), (1, .int x1), (2, .int x2), (3, .int x3)]) hx hb dX4_road_52 hl (by decide) rfl (fun ls hl => ?_)
            refine lv_iload hx hb dX4_road_54 (lv_at hl 0 rfl) ?_
            refine lv_if_eq (tgt := 87) hx hb dX4_road_56 (by decide) (fun c_9 => ?_) (fun c_9 => ?_)
            · replace hw := hw.1 c_9
              refine lv_aload_n hx hb dX4_road_87 rfl (lv_at hl 1 rfl) ?_
              refine va_get (D := G) (ci := 4) (v := .ref aR) (C := RX4) (T := TX4) (N := 5) hx hb hts (fun _ h => List.mem_cons_of_mem _ (List.mem_append_left _ (List.mem_append_right _ h))) hown hK hP 0 rfl rfl 0 (by decide) (hts _ (List.mem_of_getElem? (i := 1) rfl)) (fun _ h9 => h9) rfl dX4_road_88 ?_
              refine kc_Vi (As := []) (rest := []) (wc := wdR cI cJ cZ aR aE aC aF vrN vrA vrE vrC vrF) (wr := [(aX, .inr (4, [.ref aR, .ref aT, .ref aS, .ref aY, .int vxL])), (aY, .inl (cI, 4001, .inl vxY)), (aS, .inr (2, [.ref aR, .ref aT, .ref aW, .ref aH, .ref aQ, .ref aU, .int vsB])), (aT, .inr (3, [.int vtN, .ref aK])), (aK, .inl (cI, 200, .inl vtK)), (aH, .inr (0, [.ref aW, .ref aA, .int vhN])), (aW, .inl (cJ, 4000, .inr (.inl vhW))), (aA, .inl (cI, 4000, .inl vhA)), (aQ, .inl (cI, 4000, .inl vsQ)), (aU, .inl (cI, 300, .inl vsU))]) ⟨hx, hb, hml, hown, hts⟩ (cwV 0 hts gX4_road_X1_count rfl rfl rfl (by decide +kernel) ⟨Nat.le_of_ble_eq_true rfl, Nat.le_of_ble_eq_true rfl⟩) hK hN hA hP hD hS [3, 4, 5, 6] [0, 1, 2, 7, 8, 9, 10, 11, 12, 13] rfl rfl (by decide) (by decide) (by decide) 0 rfl rfl (k_X1_count l G cI cJ cZ aR aE aC aF _ N vrN vrA vrE vrC vrF  _ hw) rfl hl.1 rfl (Nat.le_of_ble_eq_true rfl) dX4_road_91 ⟨Nat.le_of_ble_eq_true rfl, Nat.le_of_ble_eq_true rfl⟩ (fun r_10 u_ H locs hw hP hD hS => ?_)
              replace hP : va_P G vwCl (wdX cI cJ cZ aX aY aS aR aE aC aF aT aK aH aW aA aQ aU vxL vxY vsB vrN vrA vrE vrC vrF vtN vtK vhN vhW vhA vsQ vsU) H := hP.sub [0, 1, 2, 10, 11, 12, 13, 3, 4, 5, 6, 7, 8, 9] rfl
              replace hD : va_D A (wdX cI cJ cZ aX aY aS aR aE aC aF aT aK aH aW aA aQ aU vxL vxY vsB vrN vrA vrE vrC vrF vtN vtK vhN vhW vhA vsQ vsU) := hD.sub [0, 1, 2, 10, 11, 12, 13, 3, 4, 5, 6, 7, 8, 9] (by decide) rfl
              refine lv_sipush (v := (2000 : Int32)) hx hb dX4_road_94 (by decide) ?_
              refine lv_icmp_lt (tgt := 103) hx hb dX4_road_97 (by decide) (fun c_11 => ?_) (fun c_11 => ?_)
              · replace hw := hw.1 c_11
                refine lv_aload_n hx hb dX4_road_103 rfl (lv_at hl 1 rfl) ?_
                refine va_get (D := G) (ci := 4) (v := .ref aR) (C := RX4) (T := TX4) (N := 5) hx hb hts (fun _ h => List.mem_cons_of_mem _ (List.mem_append_left _ (List.mem_append_right _ h))) hown hK hP 0 rfl rfl 0 (by decide) (hts _ (List.mem_of_getElem? (i := 1) rfl)) (fun _ h9 => h9) rfl dX4_road_104 ?_
                refine lv_iload_n hx hb dX4_road_107 rfl (lv_at hl 2 rfl) ?_
                refine lv_iload_n hx hb dX4_road_108 rfl (lv_at hl 3 rfl) ?_
                refine lv_iload_n hx hb dX4_road_109 rfl (lv_at hl 4 rfl) ?_
                refine kc_Vv (As := [.int x1, .int x2, .int x3]) (rest := []) (wc := wdR cI cJ cZ aR aE aC aF vrN vrA vrE vrC vrF) (wr := [(aX, .inr (4, [.ref aR, .ref aT, .ref aS, .ref aY, .int vxL])), (aY, .inl (cI, 4001, .inl vxY)), (aS, .inr (2, [.ref aR, .ref aT, .ref aW, .ref aH, .ref aQ, .ref aU, .int vsB])), (aT, .inr (3, [.int vtN, .ref aK])), (aK, .inl (cI, 200, .inl vtK)), (aH, .inr (0, [.ref aW, .ref aA, .int vhN])), (aW, .inl (cJ, 4000, .inr (.inl vhW))), (aA, .inl (cI, 4000, .inl vhA)), (aQ, .inl (cI, 4000, .inl vsQ)), (aU, .inl (cI, 300, .inl vsU))]) ⟨hx, hb, hml, hown, hts⟩ (cwV 3 hts gX4_road_X1_add rfl rfl rfl (by decide +kernel) ⟨Nat.le_of_ble_eq_true rfl, Nat.le_of_ble_eq_true rfl⟩) hK hN hA hP hD hS [3, 4, 5, 6] [0, 1, 2, 7, 8, 9, 10, 11, 12, 13] rfl rfl (by decide) (by decide) (by decide) 0 rfl rfl (k_X1_add l G cI cJ cZ aR aE aC aF _ N vrN vrA vrE vrC vrF x1 x2 x3 _ hw) rfl hl.1 rfl (Nat.le_of_ble_eq_true rfl) dX4_road_110 ⟨Nat.le_of_ble_eq_true rfl, Nat.le_of_ble_eq_true rfl⟩ (fun u_ H locs hw hP hD hS => ?_)
                obtain ⟨vrA_13, vrE_14, vrC_15, vrF_16⟩ := u_
                replace hP : va_P G vwCl (wdX cI cJ cZ aX aY aS aR aE aC aF aT aK aH aW aA aQ aU vxL vxY vsB vrN vrA_13 vrE_14 vrC_15 vrF_16 vtN vtK vhN vhW vhA vsQ vsU) H := hP.sub [0, 1, 2, 10, 11, 12, 13, 3, 4, 5, 6, 7, 8, 9] rfl
                replace hD : va_D A (wdX cI cJ cZ aX aY aS aR aE aC aF aT aK aH aW aA aQ aU vxL vxY vsB vrN vrA_13 vrE_14 vrC_15 vrF_16 vtN vtK vhN vhW vhA vsQ vsU) := hD.sub [0, 1, 2, 10, 11, 12, 13, 3, 4, 5, 6, 7, 8, 9] (by decide) rfl
                refine lv_aload_n hx hb dX4_road_113 rfl (lv_at hl 1 rfl) ?_
                refine va_get (D := G) (ci := 4) (v := .ref aR) (C := RX4) (T := TX4) (N := 5) hx hb hts (fun _ h => List.mem_cons_of_mem _ (List.mem_append_left _ (List.mem_append_right _ h))) hown hK hP 0 rfl rfl 0 (by decide) (hts _ (List.mem_of_getElem? (i := 1) rfl)) (fun _ h9 => h9) rfl dX4_road_114 ?_
                refine kc_Vi (As := []) (rest := []) (wc := wdR cI cJ cZ aR aE aC aF vrN vrA_13 vrE_14 vrC_15 vrF_16) (wr := [(aX, .inr (4, [.ref aR, .ref aT, .ref aS, .ref aY, .int vxL])), (aY, .inl (cI, 4001, .inl vxY)), (aS, .inr (2, [.ref aR, .ref aT, .ref aW, .ref aH, .ref aQ, .ref aU, .int vsB])), (aT, .inr (3, [.int vtN, .ref aK])), (aK, .inl (cI, 200, .inl vtK)), (aH, .inr (0, [.ref aW, .ref aA, .int vhN])), (aW, .inl (cJ, 4000, .inr (.inl vhW))), (aA, .inl (cI, 4000, .inl vhA)), (aQ, .inl (cI, 4000, .inl vsQ)), (aU, .inl (cI, 300, .inl vsU))]) ⟨hx, hb, hml, hown, hts⟩ (cwV 0 hts gX4_road_X1_count rfl rfl rfl (by decide +kernel) ⟨Nat.le_of_ble_eq_true rfl, Nat.le_of_ble_eq_true rfl⟩) hK hN hA hP hD hS [3, 4, 5, 6] [0, 1, 2, 7, 8, 9, 10, 11, 12, 13] rfl rfl (by decide) (by decide) (by decide) 0 rfl rfl (k_X1_count l G cI cJ cZ aR aE aC aF _ N vrN vrA_13 vrE_14 vrC_15 vrF_16  _ hw) rfl hl.1 rfl (Nat.le_of_ble_eq_true rfl) dX4_road_117 ⟨Nat.le_of_ble_eq_true rfl, Nat.le_of_ble_eq_true rfl⟩ (fun r_17 u_ H locs hw hP hD hS => ?_)
                replace hP : va_P G vwCl (wdX cI cJ cZ aX aY aS aR aE aC aF aT aK aH aW aA aQ aU vxL vxY vsB vrN vrA_13 vrE_14 vrC_15 vrF_16 vtN vtK vhN vhW vhA vsQ vsU) H := hP.sub [0, 1, 2, 10, 11, 12, 13, 3, 4, 5, 6, 7, 8, 9] rfl
                replace hD : va_D A (wdX cI cJ cZ aX aY aS aR aE aC aF aT aK aH aW aA aQ aU vxL vxY vsB vrN vrA_13 vrE_14 vrC_15 vrF_16 vtN vtK vhN vhW vhA vsQ vsU) := hD.sub [0, 1, 2, 10, 11, 12, 13, 3, 4, 5, 6, 7, 8, 9] (by decide) rfl
                exact hret 120 r_17 (vrA_13, vrE_14, vrC_15, vrF_16) _ _ _ dX4_road_120 hw hP hD hS
              · replace hw := hw.2 c_11
                refine lv_bipush (v := (-12 : Int32)) hx hb dX4_road_100 (by decide) ?_
                exact hret 102 (-12 : Int32) (vrA, vrE, vrC, vrF) _ _ _ dX4_road_102 hw hP hD hS
            · replace hw := hw.2 c_9
              refine lv_aload_n hx hb dX4_road_59 rfl (lv_at hl 1 rfl) ?_
              refine va_get (D := G) (ci := 4) (v := .ref aR) (C := RX4) (T := TX4) (N := 5) hx hb hts (fun _ h => List.mem_cons_of_mem _ (List.mem_append_left _ (List.mem_append_right _ h))) hown hK hP 0 rfl rfl 0 (by decide) (hts _ (List.mem_of_getElem? (i := 1) rfl)) (fun _ h9 => h9) rfl dX4_road_60 ?_
              refine lv_iload_n hx hb dX4_road_63 rfl (lv_at hl 2 rfl) ?_
              refine lv_iload_n hx hb dX4_road_64 rfl (lv_at hl 3 rfl) ?_
              refine lv_iload hx hb dX4_road_65 (lv_at hl 0 rfl) ?_
              refine lv_if_ge (tgt := 75) hx hb dX4_road_67 (by decide) (fun c_18 => ?_) (fun c_18 => ?_)
              · replace hw := hw.1 c_18
                refine lv_iload_n hx hb dX4_road_75 rfl (lv_at hl 4 rfl) ?_
                replace hl : lv_has ls 5 [(0, .ref aX)] := lv_sub hl [1] rfl
                exact b76 vrA vrE vrC vrF x1 x2 x3 _ _ _ hw hP hD hS hl
              · replace hw := hw.2 c_18
                refine lv_iload_n hx hb dX4_road_70 rfl (lv_at hl 4 rfl) ?_
                refine lv_ineg hx hb dX4_road_71 ?_
                refine lv_goto (tgt := 76) hx hb dX4_road_72 (by decide) ?_
                replace hl : lv_has ls 5 [(0, .ref aX)] := lv_sub hl [1] rfl
                exact b76 vrA vrE vrC vrF x1 x2 (-x3) _ _ _ hw hP hD hS hl
          · replace hw := hw.2 c_7
            refine lv_iconst (v := (-1 : Int32)) hx hb dX4_road_41 (by decide) ?_
            exact hret 42 (-1 : Int32) (vrA, vrE, vrC, vrF) _ _ _ dX4_road_42 hw hP hD hS
      · replace hw := hw.2 c_5
        refine lv_bipush (v := (-14 : Int32)) hx hb dX4_road_27 (by decide) ?_
        exact hret 29 (-14 : Int32) (vrA, vrE, vrC, vrF) _ _ _ dX4_road_29 hw hP hD hS
def w_X4_close_b26 (N : Nat) (vrN : Int32) (vrE : Nat → Int32) (vrF : Nat → Int32) (x1 : Int32) (x2 : Int32) (x3 : Int32) (post : Int32 → (Nat → Int32) → Prop) (vrC_b26 : Nat → Int32) (x4_b26 : Int32) (y0_b26 : Int32) : Prop :=
  ((¬ y0_b26 = x3 → w_X1_change N vrN vrE vrC_b26 vrF x1 x2 (-x4_b26) (fun vrC_6 => post (1 : Int32) vrC_6)) ∧ (y0_b26 = x3 → post (0 : Int32) vrC_b26))
def w_X4_close (N : Nat) (vrN : Int32) (vrE : Nat → Int32) (vrC : Nat → Int32) (vrF : Nat → Int32) (x1 : Int32) (x2 : Int32) (x3 : Int32) (post : Int32 → (Nat → Int32) → Prop) : Prop :=
  w_X1_signedCost N vrN vrE vrC vrF x1 x2 (fun r_1 => ((r_1 = (0 : Int32) → post (0 : Int32) vrC) ∧ (¬ (r_1 = (0 : Int32)) → (((0 : Int32) ≤ r_1 → w_X4_close_b26 N vrN vrE vrF x1 x2 x3 post vrC r_1 (0 : Int32)) ∧ (¬ ((0 : Int32) ≤ r_1) → w_X4_close_b26 N vrN vrE vrF x1 x2 x3 post vrC r_1 (1 : Int32))))))
abbrev rm_X4_close : Room := { frames := 4, cells := 0, slots := 0, locals := 96 }
set_option maxHeartbeats 4000000 in
set_option maxRecDepth 100000 in
theorem k_X4_close (l : Launch) (G : va_G) (cI cJ cZ : ClassId) (aX aY aS aR aE aC aF aT aK aH aW aA aQ aU : Nat) (sz N : Nat) (vxL : Int32) (vxY : Nat → Int32) (vsB : Int32) (vrN : Int32) (vrA : Int32) (vrE : Nat → Int32) (vrC : Nat → Int32) (vrF : Nat → Int32) (vtN : Int32) (vtK : Nat → Int32) (vhN : Int32) (vhW : Nat → Int64) (vhA : Nat → Int32) (vsQ : Nat → Int32) (vsU : Nat → Int32) (x1 : Int32) (x2 : Int32) (x3 : Int32) (post : Int32 → (Nat → Int32) → Prop) (hw : w_X4_close N vrN vrE vrC vrF x1 x2 x3 post) : Met l yX4_close wsX4_close rm_X4_close (kPc G (tyL cI cJ cZ) [.ref aX, .int x1, .int x2, .int x3] sz (wdX cI cJ cZ aX aY aS aR aE aC aF aT aK aH aW aA aQ aU vxL vxY vsB vrN vrA vrE vrC vrF vtN vtK vhN vhW vhA vsQ vsU)) (va_Qi (fun (r : Int32) (u : (Nat → Int32)) => post r u) (kB G (tyL cI cJ cZ) (va_A (wdX cI cJ cZ aX aY aS aR aE aC aF aT aK aH aW aA aQ aU vxL vxY vsB vrN vrA vrE vrC vrF vtN vtK vhN vhW vhA vsQ vsU) sz) (fun (u : (Nat → Int32)) => wdX cI cJ cZ aX aY aS aR aE aC aF aT aK aH aW aA aQ aU vxL vxY vsB vrN vrA vrE u vrF vtN vtK vhN vhW vhA vsQ vsU)) (va_A (wdX cI cJ cZ aX aY aS aR aE aC aF aT aK aH aW aA aQ aU vxL vxY vsB vrN vrA vrE vrC vrF vtN vtK vhN vhW vhA vsQ vsU) sz)) 0 0 (va_A (wdX cI cJ cZ aX aY aS aR aE aC aF aT aK aH aW aA aQ aU vxL vxY vsB vrN vrA vrE vrC vrF vtN vtK vhN vhW vhA vsQ vsU) sz) := by
  refine km_z (cc := cX4_close) (maxL := 5) (by decide) rfl (Nat.le_of_ble_eq_true rfl) ?_
  intro p e s m below meth c A Q ls hx hb hml hts hown hnm hK hN hA hP hD hS hl hret
  replace hown : s.vm.findClass RX4 = some m.cls := hown
  replace hl : lv_has ls 5 [(0, .ref aX), (1, .int x1), (2, .int x2), (3, .int x3)] := hl
  have b26 : ∀ (vrC_b26 : Nat → Int32) (x4_b26 : Int32) (y0_b26 : Int32) (H : Heap) (locs : List Loc) (ls : Array Slot), w_X4_close_b26 N vrN vrE vrF x1 x2 x3 post vrC_b26 x4_b26 y0_b26 → va_P G vwCl (wdX cI cJ cZ aX aY aS aR aE aC aF aT aK aH aW aA aQ aU vxL vxY vsB vrN vrA vrE vrC_b26 vrF vtN vtK vhN vhW vhA vsQ vsU) H → va_D A (wdX cI cJ cZ aX aY aS aR aE aC aF aT aK aH aW aA aQ aU vxL vxY vsB vrN vrA vrE vrC_b26 vrF vtN vtK vhN vhW vhA vsQ vsU) → va_S A s.heap H locs → lv_has ls 5 [(0, .ref aX), (1, .int x1), (2, .int x2), (3, .int x3), (4, .int x4_b26)] → W p l e rm_X4_close s m ([.ref aX, .int x1, .int x2, .int x3] : List Value).toArray below meth c H locs 0 0 Q (F0 m 26 ls [.int y0_b26]) := by
    intro vrC_b26 x4_b26 y0_b26 H locs ls hw hP hD hS hl
    unfold w_X4_close_b26 at hw
    refine lv_iload_n hx hb dX4_close_26 rfl (lv_at hl 3 rfl) ?_
    refine lv_icmp_ne (tgt := 32) hx hb dX4_close_27 (by decide) (fun c_4 => ?_) (fun c_4 => ?_)
    · replace hw := hw.1 c_4
      refine lv_aload_n hx hb dX4_close_32 rfl (lv_at hl 0 rfl) ?_
      refine va_get (D := G) (ci := 4) (v := .ref aR) (C := RX4) (T := TX4) (N := 5) hx hb hts (fun _ h => List.mem_cons_of_mem _ (List.mem_append_left _ (List.mem_append_right _ h))) hown hK hP 0 rfl rfl 0 (by decide) (hts _ (List.mem_of_getElem? (i := 1) rfl)) (fun _ h9 => h9) rfl dX4_close_33 ?_
      refine lv_iload_n hx hb dX4_close_36 rfl (lv_at hl 1 rfl) ?_
      refine lv_iload_n hx hb dX4_close_37 rfl (lv_at hl 2 rfl) ?_
      refine lv_iload hx hb dX4_close_38 (lv_at hl 4 rfl) ?_
      refine lv_ineg hx hb dX4_close_40 ?_
      refine kc_Vv (As := [.int x1, .int x2, .int (-x4_b26)]) (rest := []) (wc := wdR cI cJ cZ aR aE aC aF vrN vrA vrE vrC_b26 vrF) (wr := [(aX, .inr (4, [.ref aR, .ref aT, .ref aS, .ref aY, .int vxL])), (aY, .inl (cI, 4001, .inl vxY)), (aS, .inr (2, [.ref aR, .ref aT, .ref aW, .ref aH, .ref aQ, .ref aU, .int vsB])), (aT, .inr (3, [.int vtN, .ref aK])), (aK, .inl (cI, 200, .inl vtK)), (aH, .inr (0, [.ref aW, .ref aA, .int vhN])), (aW, .inl (cJ, 4000, .inr (.inl vhW))), (aA, .inl (cI, 4000, .inl vhA)), (aQ, .inl (cI, 4000, .inl vsQ)), (aU, .inl (cI, 300, .inl vsU))]) ⟨hx, hb, hml, hown, hts⟩ (cwV 3 hts gX4_close_X1_change rfl rfl rfl (by decide +kernel) ⟨Nat.le_of_ble_eq_true rfl, Nat.le_of_ble_eq_true rfl⟩) hK hN hA hP hD hS [3, 4, 5, 6] [0, 1, 2, 7, 8, 9, 10, 11, 12, 13] rfl rfl (by decide) (by decide) (by decide) 0 rfl rfl (k_X1_change l G cI cJ cZ aR aE aC aF _ N vrN vrA vrE vrC_b26 vrF x1 x2 (-x4_b26) _ hw) rfl hl.1 rfl (Nat.le_of_ble_eq_true rfl) dX4_close_41 ⟨Nat.le_of_ble_eq_true rfl, Nat.le_of_ble_eq_true rfl⟩ (fun u_ H locs hw hP hD hS => ?_)
      obtain ⟨vrC_6, hu_⟩ : ∃ z, z = u_ := ⟨_, rfl⟩
      subst hu_
      replace hP : va_P G vwCl (wdX cI cJ cZ aX aY aS aR aE aC aF aT aK aH aW aA aQ aU vxL vxY vsB vrN vrA vrE vrC_6 vrF vtN vtK vhN vhW vhA vsQ vsU) H := hP.sub [0, 1, 2, 10, 11, 12, 13, 3, 4, 5, 6, 7, 8, 9] rfl
      replace hD : va_D A (wdX cI cJ cZ aX aY aS aR aE aC aF aT aK aH aW aA aQ aU vxL vxY vsB vrN vrA vrE vrC_6 vrF vtN vtK vhN vhW vhA vsQ vsU) := hD.sub [0, 1, 2, 10, 11, 12, 13, 3, 4, 5, 6, 7, 8, 9] (by decide) rfl
      refine lv_iconst (v := (1 : Int32)) hx hb dX4_close_44 (by decide) ?_
      exact hret 45 (1 : Int32) (vrC_6) _ _ _ dX4_close_45 rfl hw hP hD hS
    · replace hw := hw.2 c_4
      refine lv_iconst (v := (0 : Int32)) hx hb dX4_close_30 (by decide) ?_
      exact hret 31 (0 : Int32) (vrC_b26) _ _ _ dX4_close_31 rfl hw hP hD hS
  unfold w_X4_close at hw
  refine lv_aload_n hx hb dX4_close_0 rfl (lv_at hl 0 rfl) ?_
  refine va_get (D := G) (ci := 4) (v := .ref aR) (C := RX4) (T := TX4) (N := 5) hx hb hts (fun _ h => List.mem_cons_of_mem _ (List.mem_append_left _ (List.mem_append_right _ h))) hown hK hP 0 rfl rfl 0 (by decide) (hts _ (List.mem_of_getElem? (i := 1) rfl)) (fun _ h9 => h9) rfl dX4_close_1 ?_
  refine lv_iload_n hx hb dX4_close_4 rfl (lv_at hl 1 rfl) ?_
  refine lv_iload_n hx hb dX4_close_5 rfl (lv_at hl 2 rfl) ?_
  refine kc_Vi (As := [.int x1, .int x2]) (rest := []) (wc := wdR cI cJ cZ aR aE aC aF vrN vrA vrE vrC vrF) (wr := [(aX, .inr (4, [.ref aR, .ref aT, .ref aS, .ref aY, .int vxL])), (aY, .inl (cI, 4001, .inl vxY)), (aS, .inr (2, [.ref aR, .ref aT, .ref aW, .ref aH, .ref aQ, .ref aU, .int vsB])), (aT, .inr (3, [.int vtN, .ref aK])), (aK, .inl (cI, 200, .inl vtK)), (aH, .inr (0, [.ref aW, .ref aA, .int vhN])), (aW, .inl (cJ, 4000, .inr (.inl vhW))), (aA, .inl (cI, 4000, .inl vhA)), (aQ, .inl (cI, 4000, .inl vsQ)), (aU, .inl (cI, 300, .inl vsU))]) ⟨hx, hb, hml, hown, hts⟩ (cwV 2 hts gX4_close_X1_signedCost rfl rfl rfl (by decide +kernel) ⟨Nat.le_of_ble_eq_true rfl, Nat.le_of_ble_eq_true rfl⟩) hK hN hA hP hD hS [3, 4, 5, 6] [0, 1, 2, 7, 8, 9, 10, 11, 12, 13] rfl rfl (by decide) (by decide) (by decide) 0 rfl rfl (k_X1_signedCost l G cI cJ cZ aR aE aC aF _ N vrN vrA vrE vrC vrF x1 x2 _ hw) rfl hl.1 rfl (Nat.le_of_ble_eq_true rfl) dX4_close_6 ⟨Nat.le_of_ble_eq_true rfl, Nat.le_of_ble_eq_true rfl⟩ (fun r_1 u_ H locs hw hP hD hS => ?_)
  replace hP : va_P G vwCl (wdX cI cJ cZ aX aY aS aR aE aC aF aT aK aH aW aA aQ aU vxL vxY vsB vrN vrA vrE vrC vrF vtN vtK vhN vhW vhA vsQ vsU) H := hP.sub [0, 1, 2, 10, 11, 12, 13, 3, 4, 5, 6, 7, 8, 9] rfl
  replace hD : va_D A (wdX cI cJ cZ aX aY aS aR aE aC aF aT aK aH aW aA aQ aU vxL vxY vsB vrN vrA vrE vrC vrF vtN vtK vhN vhW vhA vsQ vsU) := hD.sub [0, 1, 2, 10, 11, 12, 13, 3, 4, 5, 6, 7, 8, 9] (by decide) rfl
  refine lv_istore (lv' := [(4, .int r_1), (0, .ref aX), (1, .int x1), (2, .int x2), (3, .int x3)]) hx hb dX4_close_9 hl (by decide) rfl (fun ls hl => ?_)
  refine lv_iload hx hb dX4_close_11 (lv_at hl 0 rfl) ?_
  refine lv_if_eq (tgt := 30) hx hb dX4_close_13 (by decide) (fun c_2 => ?_) (fun c_2 => ?_)
  · replace hw := hw.1 c_2
    refine lv_iconst (v := (0 : Int32)) hx hb dX4_close_30 (by decide) ?_
    exact hret 31 (0 : Int32) (vrC) _ _ _ dX4_close_31 rfl hw hP hD hS
  · replace hw := hw.2 c_2
    refine lv_iload hx hb dX4_close_16 (lv_at hl 0 rfl) ?_
    refine lv_if_ge (tgt := 25) hx hb dX4_close_18 (by decide) (fun c_3 => ?_) (fun c_3 => ?_)
    · replace hw := hw.1 c_3
      refine lv_iconst (v := (0 : Int32)) hx hb dX4_close_25 (by decide) ?_
      replace hl : lv_has ls 5 [(0, .ref aX), (1, .int x1), (2, .int x2), (3, .int x3), (4, .int r_1)] := lv_sub hl [1, 2, 3, 4, 0] rfl
      exact b26 vrC r_1 (0 : Int32) _ _ _ hw hP hD hS hl
    · replace hw := hw.2 c_3
      refine lv_iconst (v := (1 : Int32)) hx hb dX4_close_21 (by decide) ?_
      refine lv_goto (tgt := 26) hx hb dX4_close_22 (by decide) ?_
      replace hl : lv_has ls 5 [(0, .ref aX), (1, .int x1), (2, .int x2), (3, .int x3), (4, .int r_1)] := lv_sub hl [1, 2, 3, 4, 0] rfl
      exact b26 vrC r_1 (1 : Int32) _ _ _ hw hP hD hS hl
def w_X4_cost (N : Nat) (vrN : Int32) (vrE : Nat → Int32) (vrC : Nat → Int32) (vrF : Nat → Int32) (x1 : Int32) (x2 : Int32) (post : Int32 → Prop) : Prop :=
  w_X1_signedCost N vrN vrE vrC vrF x1 x2 (fun r_1 => post r_1)
abbrev rm_X4_cost : Room := { frames := 4, cells := 0, slots := 0, locals := 94 }
set_option maxHeartbeats 4000000 in
set_option maxRecDepth 100000 in
theorem k_X4_cost (l : Launch) (G : va_G) (cI cJ cZ : ClassId) (aX aY aS aR aE aC aF aT aK aH aW aA aQ aU : Nat) (sz N : Nat) (vxL : Int32) (vxY : Nat → Int32) (vsB : Int32) (vrN : Int32) (vrA : Int32) (vrE : Nat → Int32) (vrC : Nat → Int32) (vrF : Nat → Int32) (vtN : Int32) (vtK : Nat → Int32) (vhN : Int32) (vhW : Nat → Int64) (vhA : Nat → Int32) (vsQ : Nat → Int32) (vsU : Nat → Int32) (x1 : Int32) (x2 : Int32) (post : Int32 → Prop) (hw : w_X4_cost N vrN vrE vrC vrF x1 x2 post) : Met l yX4_cost wsX4_cost rm_X4_cost (kPc G (tyL cI cJ cZ) [.ref aX, .int x1, .int x2] sz (wdX cI cJ cZ aX aY aS aR aE aC aF aT aK aH aW aA aQ aU vxL vxY vsB vrN vrA vrE vrC vrF vtN vtK vhN vhW vhA vsQ vsU)) (va_Qi (fun (r : Int32) (u : Unit) => post r ) (kB G (tyL cI cJ cZ) (va_A (wdX cI cJ cZ aX aY aS aR aE aC aF aT aK aH aW aA aQ aU vxL vxY vsB vrN vrA vrE vrC vrF vtN vtK vhN vhW vhA vsQ vsU) sz) (fun (u : Unit) => wdX cI cJ cZ aX aY aS aR aE aC aF aT aK aH aW aA aQ aU vxL vxY vsB vrN vrA vrE vrC vrF vtN vtK vhN vhW vhA vsQ vsU)) (va_A (wdX cI cJ cZ aX aY aS aR aE aC aF aT aK aH aW aA aQ aU vxL vxY vsB vrN vrA vrE vrC vrF vtN vtK vhN vhW vhA vsQ vsU) sz)) 0 0 (va_A (wdX cI cJ cZ aX aY aS aR aE aC aF aT aK aH aW aA aQ aU vxL vxY vsB vrN vrA vrE vrC vrF vtN vtK vhN vhW vhA vsQ vsU) sz) := by
  refine km_i (cc := cX4_cost) (maxL := 3) (by decide) rfl (Nat.le_of_ble_eq_true rfl) ?_
  intro p e s m below meth c A Q ls hx hb hml hts hown hnm hK hN hA hP hD hS hl hret
  replace hown : s.vm.findClass RX4 = some m.cls := hown
  replace hl : lv_has ls 3 [(0, .ref aX), (1, .int x1), (2, .int x2)] := hl
  unfold w_X4_cost at hw
  refine lv_aload_n hx hb dX4_cost_0 rfl (lv_at hl 0 rfl) ?_
  refine va_get (D := G) (ci := 4) (v := .ref aR) (C := RX4) (T := TX4) (N := 5) hx hb hts (fun _ h => List.mem_cons_of_mem _ (List.mem_append_left _ (List.mem_append_right _ h))) hown hK hP 0 rfl rfl 0 (by decide) (hts _ (List.mem_of_getElem? (i := 1) rfl)) (fun _ h9 => h9) rfl dX4_cost_1 ?_
  refine lv_iload_n hx hb dX4_cost_4 rfl (lv_at hl 1 rfl) ?_
  refine lv_iload_n hx hb dX4_cost_5 rfl (lv_at hl 2 rfl) ?_
  refine kc_Vi (As := [.int x1, .int x2]) (rest := []) (wc := wdR cI cJ cZ aR aE aC aF vrN vrA vrE vrC vrF) (wr := [(aX, .inr (4, [.ref aR, .ref aT, .ref aS, .ref aY, .int vxL])), (aY, .inl (cI, 4001, .inl vxY)), (aS, .inr (2, [.ref aR, .ref aT, .ref aW, .ref aH, .ref aQ, .ref aU, .int vsB])), (aT, .inr (3, [.int vtN, .ref aK])), (aK, .inl (cI, 200, .inl vtK)), (aH, .inr (0, [.ref aW, .ref aA, .int vhN])), (aW, .inl (cJ, 4000, .inr (.inl vhW))), (aA, .inl (cI, 4000, .inl vhA)), (aQ, .inl (cI, 4000, .inl vsQ)), (aU, .inl (cI, 300, .inl vsU))]) ⟨hx, hb, hml, hown, hts⟩ (cwV 2 hts gX4_cost_X1_signedCost rfl rfl rfl (by decide +kernel) ⟨Nat.le_of_ble_eq_true rfl, Nat.le_of_ble_eq_true rfl⟩) hK hN hA hP hD hS [3, 4, 5, 6] [0, 1, 2, 7, 8, 9, 10, 11, 12, 13] rfl rfl (by decide) (by decide) (by decide) 0 rfl rfl (k_X1_signedCost l G cI cJ cZ aR aE aC aF _ N vrN vrA vrE vrC vrF x1 x2 _ hw) rfl hl.1 rfl (Nat.le_of_ble_eq_true rfl) dX4_cost_6 ⟨Nat.le_of_ble_eq_true rfl, Nat.le_of_ble_eq_true rfl⟩ (fun r_1 u_ H locs hw hP hD hS => ?_)
  replace hP : va_P G vwCl (wdX cI cJ cZ aX aY aS aR aE aC aF aT aK aH aW aA aQ aU vxL vxY vsB vrN vrA vrE vrC vrF vtN vtK vhN vhW vhA vsQ vsU) H := hP.sub [0, 1, 2, 10, 11, 12, 13, 3, 4, 5, 6, 7, 8, 9] rfl
  replace hD : va_D A (wdX cI cJ cZ aX aY aS aR aE aC aF aT aK aH aW aA aQ aU vxL vxY vsB vrN vrA vrE vrC vrF vtN vtK vhN vhW vhA vsQ vsU) := hD.sub [0, 1, 2, 10, 11, 12, 13, 3, 4, 5, 6, 7, 8, 9] (by decide) rfl
  exact hret 9 r_1 () _ _ _ dX4_cost_9 hw hP hD hS
def w_X4_bar (N : Nat) (vrN : Int32) (vtN : Int32) (vtK : Nat → Int32) (x1 : Int32) (x2 : Int32) (x3 : Int32) (x4 : Int32) (post : Int32 → Int32 → (Nat → Int32) → Prop) : Prop :=
  w_X1_hasNode N vrN x1 (fun r_1 => ((r_1 = (0 : Int32) → post (-14 : Int32) vtN vtK) ∧ (¬ (r_1 = (0 : Int32)) → w_X1_hasNode N vrN x2 (fun r_3 => ((r_3 = (0 : Int32) → post (-14 : Int32) vtN vtK) ∧ (¬ (r_3 = (0 : Int32)) → w_X1_hasNode N vrN x3 (fun r_5 => ((r_5 = (0 : Int32) → post (-14 : Int32) vtN vtK) ∧ (¬ (r_5 = (0 : Int32)) → ((x1 = x2 → post (-14 : Int32) vtN vtK) ∧ (¬ (x1 = x2) → ((¬ x2 = x3 → w_X3_isBarred N vtN vtK x1 x2 x3 (fun r_9 => ((¬ r_9 = x4 → ((¬ x4 = (0 : Int32) → ((vtN < (200 : Int32) → w_X3_add N vtN vtK x1 x2 x3 (fun vtN_14 vtK_15 => post vtN_14 vtN_14 vtK_15)) ∧ (¬ (vtN < (200 : Int32)) → post (-12 : Int32) vtN vtK))) ∧ (x4 = (0 : Int32) → w_X3_remove N vtN vtK x1 x2 x3 (fun vtN_17 vtK_18 => post vtN_17 vtN_17 vtK_18)))) ∧ (r_9 = x4 → post vtN vtN vtK)))) ∧ (x2 = x3 → post (-14 : Int32) vtN vtK)))))))))))))
abbrev rm_X4_bar : Room := { frames := 3, cells := 0, slots := 0, locals := 87 }
set_option maxHeartbeats 4000000 in
set_option maxRecDepth 100000 in
theorem k_X4_bar (l : Launch) (G : va_G) (cI cJ cZ : ClassId) (aX aY aS aR aE aC aF aT aK aH aW aA aQ aU : Nat) (sz N : Nat) (vxL : Int32) (vxY : Nat → Int32) (vsB : Int32) (vrN : Int32) (vrA : Int32) (vrE : Nat → Int32) (vrC : Nat → Int32) (vrF : Nat → Int32) (vtN : Int32) (vtK : Nat → Int32) (vhN : Int32) (vhW : Nat → Int64) (vhA : Nat → Int32) (vsQ : Nat → Int32) (vsU : Nat → Int32) (x1 : Int32) (x2 : Int32) (x3 : Int32) (x4 : Int32) (post : Int32 → Int32 → (Nat → Int32) → Prop) (hw : w_X4_bar N vrN vtN vtK x1 x2 x3 x4 post) : Met l yX4_bar wsX4_bar rm_X4_bar (kPc G (tyL cI cJ cZ) [.ref aX, .int x1, .int x2, .int x3, .int x4] sz (wdX cI cJ cZ aX aY aS aR aE aC aF aT aK aH aW aA aQ aU vxL vxY vsB vrN vrA vrE vrC vrF vtN vtK vhN vhW vhA vsQ vsU)) (va_Qi (fun (r : Int32) (u : Int32 × (Nat → Int32)) => post r u.1 u.2) (kB G (tyL cI cJ cZ) (va_A (wdX cI cJ cZ aX aY aS aR aE aC aF aT aK aH aW aA aQ aU vxL vxY vsB vrN vrA vrE vrC vrF vtN vtK vhN vhW vhA vsQ vsU) sz) (fun (u : Int32 × (Nat → Int32)) => wdX cI cJ cZ aX aY aS aR aE aC aF aT aK aH aW aA aQ aU vxL vxY vsB vrN vrA vrE vrC vrF u.1 u.2 vhN vhW vhA vsQ vsU)) (va_A (wdX cI cJ cZ aX aY aS aR aE aC aF aT aK aH aW aA aQ aU vxL vxY vsB vrN vrA vrE vrC vrF vtN vtK vhN vhW vhA vsQ vsU) sz)) 0 0 (va_A (wdX cI cJ cZ aX aY aS aR aE aC aF aT aK aH aW aA aQ aU vxL vxY vsB vrN vrA vrE vrC vrF vtN vtK vhN vhW vhA vsQ vsU) sz) := by
  refine km_i (cc := cX4_bar) (maxL := 5) (by decide) rfl (Nat.le_of_ble_eq_true rfl) ?_
  intro p e s m below meth c A Q ls hx hb hml hts hown hnm hK hN hA hP hD hS hl hret
  replace hown : s.vm.findClass RX4 = some m.cls := hown
  replace hl : lv_has ls 5 [(0, .ref aX), (1, .int x1), (2, .int x2), (3, .int x3), (4, .int x4)] := hl
  unfold w_X4_bar at hw
  refine lv_aload_n hx hb dX4_bar_0 rfl (lv_at hl 0 rfl) ?_
  refine va_get (D := G) (ci := 4) (v := .ref aR) (C := RX4) (T := TX4) (N := 5) hx hb hts (fun _ h => List.mem_cons_of_mem _ (List.mem_append_left _ (List.mem_append_left _ (List.mem_append_right _ h)))) hown hK hP 0 rfl rfl 0 (by decide) (hts _ (List.mem_of_getElem? (i := 1) rfl)) (fun _ h9 => h9) rfl dX4_bar_1 ?_
  refine lv_iload_n hx hb dX4_bar_4 rfl (lv_at hl 1 rfl) ?_
  refine kc_Vi (As := [.int x1]) (rest := []) (wc := wdR cI cJ cZ aR aE aC aF vrN vrA vrE vrC vrF) (wr := [(aX, .inr (4, [.ref aR, .ref aT, .ref aS, .ref aY, .int vxL])), (aY, .inl (cI, 4001, .inl vxY)), (aS, .inr (2, [.ref aR, .ref aT, .ref aW, .ref aH, .ref aQ, .ref aU, .int vsB])), (aT, .inr (3, [.int vtN, .ref aK])), (aK, .inl (cI, 200, .inl vtK)), (aH, .inr (0, [.ref aW, .ref aA, .int vhN])), (aW, .inl (cJ, 4000, .inr (.inl vhW))), (aA, .inl (cI, 4000, .inl vhA)), (aQ, .inl (cI, 4000, .inl vsQ)), (aU, .inl (cI, 300, .inl vsU))]) ⟨hx, hb, hml, hown, hts⟩ (cwV 1 hts gX4_bar_X1_hasNode rfl rfl rfl (by decide +kernel) ⟨Nat.le_of_ble_eq_true rfl, Nat.le_of_ble_eq_true rfl⟩) hK hN hA hP hD hS [3, 4, 5, 6] [0, 1, 2, 7, 8, 9, 10, 11, 12, 13] rfl rfl (by decide) (by decide) (by decide) 0 rfl rfl (k_X1_hasNode l G cI cJ cZ aR aE aC aF _ N vrN vrA vrE vrC vrF x1 _ hw) rfl hl.1 rfl (Nat.le_of_ble_eq_true rfl) dX4_bar_5 ⟨Nat.le_of_ble_eq_true rfl, Nat.le_of_ble_eq_true rfl⟩ (fun r_1 u_ H locs hw hP hD hS => ?_)
  replace hP : va_P G vwCl (wdX cI cJ cZ aX aY aS aR aE aC aF aT aK aH aW aA aQ aU vxL vxY vsB vrN vrA vrE vrC vrF vtN vtK vhN vhW vhA vsQ vsU) H := hP.sub [0, 1, 2, 10, 11, 12, 13, 3, 4, 5, 6, 7, 8, 9] rfl
  replace hD : va_D A (wdX cI cJ cZ aX aY aS aR aE aC aF aT aK aH aW aA aQ aU vxL vxY vsB vrN vrA vrE vrC vrF vtN vtK vhN vhW vhA vsQ vsU) := hD.sub [0, 1, 2, 10, 11, 12, 13, 3, 4, 5, 6, 7, 8, 9] (by decide) rfl
  refine lv_if_eq (tgt := 43) hx hb dX4_bar_8 (by decide) (fun c_2 => ?_) (fun c_2 => ?_)
  · replace hw := hw.1 c_2
    refine lv_bipush (v := (-14 : Int32)) hx hb dX4_bar_43 (by decide) ?_
    exact hret 45 (-14 : Int32) (vtN, vtK) _ _ _ dX4_bar_45 hw hP hD hS
  · replace hw := hw.2 c_2
    refine lv_aload_n hx hb dX4_bar_11 rfl (lv_at hl 0 rfl) ?_
    refine va_get (D := G) (ci := 4) (v := .ref aR) (C := RX4) (T := TX4) (N := 5) hx hb hts (fun _ h => List.mem_cons_of_mem _ (List.mem_append_left _ (List.mem_append_left _ (List.mem_append_right _ h)))) hown hK hP 0 rfl rfl 0 (by decide) (hts _ (List.mem_of_getElem? (i := 1) rfl)) (fun _ h9 => h9) rfl dX4_bar_12 ?_
    refine lv_iload_n hx hb dX4_bar_15 rfl (lv_at hl 2 rfl) ?_
    refine kc_Vi (As := [.int x2]) (rest := []) (wc := wdR cI cJ cZ aR aE aC aF vrN vrA vrE vrC vrF) (wr := [(aX, .inr (4, [.ref aR, .ref aT, .ref aS, .ref aY, .int vxL])), (aY, .inl (cI, 4001, .inl vxY)), (aS, .inr (2, [.ref aR, .ref aT, .ref aW, .ref aH, .ref aQ, .ref aU, .int vsB])), (aT, .inr (3, [.int vtN, .ref aK])), (aK, .inl (cI, 200, .inl vtK)), (aH, .inr (0, [.ref aW, .ref aA, .int vhN])), (aW, .inl (cJ, 4000, .inr (.inl vhW))), (aA, .inl (cI, 4000, .inl vhA)), (aQ, .inl (cI, 4000, .inl vsQ)), (aU, .inl (cI, 300, .inl vsU))]) ⟨hx, hb, hml, hown, hts⟩ (cwV 1 hts gX4_bar_X1_hasNode rfl rfl rfl (by decide +kernel) ⟨Nat.le_of_ble_eq_true rfl, Nat.le_of_ble_eq_true rfl⟩) hK hN hA hP hD hS [3, 4, 5, 6] [0, 1, 2, 7, 8, 9, 10, 11, 12, 13] rfl rfl (by decide) (by decide) (by decide) 0 rfl rfl (k_X1_hasNode l G cI cJ cZ aR aE aC aF _ N vrN vrA vrE vrC vrF x2 _ hw) rfl hl.1 rfl (Nat.le_of_ble_eq_true rfl) dX4_bar_16 ⟨Nat.le_of_ble_eq_true rfl, Nat.le_of_ble_eq_true rfl⟩ (fun r_3 u_ H locs hw hP hD hS => ?_)
    replace hP : va_P G vwCl (wdX cI cJ cZ aX aY aS aR aE aC aF aT aK aH aW aA aQ aU vxL vxY vsB vrN vrA vrE vrC vrF vtN vtK vhN vhW vhA vsQ vsU) H := hP.sub [0, 1, 2, 10, 11, 12, 13, 3, 4, 5, 6, 7, 8, 9] rfl
    replace hD : va_D A (wdX cI cJ cZ aX aY aS aR aE aC aF aT aK aH aW aA aQ aU vxL vxY vsB vrN vrA vrE vrC vrF vtN vtK vhN vhW vhA vsQ vsU) := hD.sub [0, 1, 2, 10, 11, 12, 13, 3, 4, 5, 6, 7, 8, 9] (by decide) rfl
    refine lv_if_eq (tgt := 43) hx hb dX4_bar_19 (by decide) (fun c_4 => ?_) (fun c_4 => ?_)
    · replace hw := hw.1 c_4
      refine lv_bipush (v := (-14 : Int32)) hx hb dX4_bar_43 (by decide) ?_
      exact hret 45 (-14 : Int32) (vtN, vtK) _ _ _ dX4_bar_45 hw hP hD hS
    · replace hw := hw.2 c_4
      refine lv_aload_n hx hb dX4_bar_22 rfl (lv_at hl 0 rfl) ?_
      refine va_get (D := G) (ci := 4) (v := .ref aR) (C := RX4) (T := TX4) (N := 5) hx hb hts (fun _ h => List.mem_cons_of_mem _ (List.mem_append_left _ (List.mem_append_left _ (List.mem_append_right _ h)))) hown hK hP 0 rfl rfl 0 (by decide) (hts _ (List.mem_of_getElem? (i := 1) rfl)) (fun _ h9 => h9) rfl dX4_bar_23 ?_
      refine lv_iload_n hx hb dX4_bar_26 rfl (lv_at hl 3 rfl) ?_
      refine kc_Vi (As := [.int x3]) (rest := []) (wc := wdR cI cJ cZ aR aE aC aF vrN vrA vrE vrC vrF) (wr := [(aX, .inr (4, [.ref aR, .ref aT, .ref aS, .ref aY, .int vxL])), (aY, .inl (cI, 4001, .inl vxY)), (aS, .inr (2, [.ref aR, .ref aT, .ref aW, .ref aH, .ref aQ, .ref aU, .int vsB])), (aT, .inr (3, [.int vtN, .ref aK])), (aK, .inl (cI, 200, .inl vtK)), (aH, .inr (0, [.ref aW, .ref aA, .int vhN])), (aW, .inl (cJ, 4000, .inr (.inl vhW))), (aA, .inl (cI, 4000, .inl vhA)), (aQ, .inl (cI, 4000, .inl vsQ)), (aU, .inl (cI, 300, .inl vsU))]) ⟨hx, hb, hml, hown, hts⟩ (cwV 1 hts gX4_bar_X1_hasNode rfl rfl rfl (by decide +kernel) ⟨Nat.le_of_ble_eq_true rfl, Nat.le_of_ble_eq_true rfl⟩) hK hN hA hP hD hS [3, 4, 5, 6] [0, 1, 2, 7, 8, 9, 10, 11, 12, 13] rfl rfl (by decide) (by decide) (by decide) 0 rfl rfl (k_X1_hasNode l G cI cJ cZ aR aE aC aF _ N vrN vrA vrE vrC vrF x3 _ hw) rfl hl.1 rfl (Nat.le_of_ble_eq_true rfl) dX4_bar_27 ⟨Nat.le_of_ble_eq_true rfl, Nat.le_of_ble_eq_true rfl⟩ (fun r_5 u_ H locs hw hP hD hS => ?_)
      replace hP : va_P G vwCl (wdX cI cJ cZ aX aY aS aR aE aC aF aT aK aH aW aA aQ aU vxL vxY vsB vrN vrA vrE vrC vrF vtN vtK vhN vhW vhA vsQ vsU) H := hP.sub [0, 1, 2, 10, 11, 12, 13, 3, 4, 5, 6, 7, 8, 9] rfl
      replace hD : va_D A (wdX cI cJ cZ aX aY aS aR aE aC aF aT aK aH aW aA aQ aU vxL vxY vsB vrN vrA vrE vrC vrF vtN vtK vhN vhW vhA vsQ vsU) := hD.sub [0, 1, 2, 10, 11, 12, 13, 3, 4, 5, 6, 7, 8, 9] (by decide) rfl
      refine lv_if_eq (tgt := 43) hx hb dX4_bar_30 (by decide) (fun c_6 => ?_) (fun c_6 => ?_)
      · replace hw := hw.1 c_6
        refine lv_bipush (v := (-14 : Int32)) hx hb dX4_bar_43 (by decide) ?_
        exact hret 45 (-14 : Int32) (vtN, vtK) _ _ _ dX4_bar_45 hw hP hD hS
      · replace hw := hw.2 c_6
        refine lv_iload_n hx hb dX4_bar_33 rfl (lv_at hl 1 rfl) ?_
        refine lv_iload_n hx hb dX4_bar_34 rfl (lv_at hl 2 rfl) ?_
        refine lv_icmp_eq (tgt := 43) hx hb dX4_bar_35 (by decide) (fun c_7 => ?_) (fun c_7 => ?_)
        · replace hw := hw.1 c_7
          refine lv_bipush (v := (-14 : Int32)) hx hb dX4_bar_43 (by decide) ?_
          exact hret 45 (-14 : Int32) (vtN, vtK) _ _ _ dX4_bar_45 hw hP hD hS
        · replace hw := hw.2 c_7
          refine lv_iload_n hx hb dX4_bar_38 rfl (lv_at hl 2 rfl) ?_
          refine lv_iload_n hx hb dX4_bar_39 rfl (lv_at hl 3 rfl) ?_
          refine lv_icmp_ne (tgt := 46) hx hb dX4_bar_40 (by decide) (fun c_8 => ?_) (fun c_8 => ?_)
          · replace hw := hw.1 c_8
            refine lv_aload_n hx hb dX4_bar_46 rfl (lv_at hl 0 rfl) ?_
            refine va_get (D := G) (ci := 4) (v := .ref aT) (C := RX4) (T := TX4) (N := 5) hx hb hts (fun _ h => List.mem_cons_of_mem _ (List.mem_append_left _ (List.mem_append_left _ (List.mem_append_right _ h)))) hown hK hP 0 rfl rfl 1 (by decide) (hts _ (List.mem_of_getElem? (i := 2) rfl)) (fun _ h9 => h9) rfl dX4_bar_47 ?_
            refine lv_iload_n hx hb dX4_bar_50 rfl (lv_at hl 1 rfl) ?_
            refine lv_iload_n hx hb dX4_bar_51 rfl (lv_at hl 2 rfl) ?_
            refine lv_iload_n hx hb dX4_bar_52 rfl (lv_at hl 3 rfl) ?_
            refine kc_Vi (As := [.int x1, .int x2, .int x3]) (rest := []) (wc := wdT cI cJ cZ aT aK vtN vtK) (wr := [(aX, .inr (4, [.ref aR, .ref aT, .ref aS, .ref aY, .int vxL])), (aY, .inl (cI, 4001, .inl vxY)), (aS, .inr (2, [.ref aR, .ref aT, .ref aW, .ref aH, .ref aQ, .ref aU, .int vsB])), (aR, .inr (1, [.int vrN, .int vrA, .ref aE, .ref aC, .ref aF])), (aE, .inl (cI, 4000, .inl vrE)), (aC, .inl (cI, 4000, .inl vrC)), (aF, .inl (cI, 301, .inl vrF)), (aH, .inr (0, [.ref aW, .ref aA, .int vhN])), (aW, .inl (cJ, 4000, .inr (.inl vhW))), (aA, .inl (cI, 4000, .inl vhA)), (aQ, .inl (cI, 4000, .inl vsQ)), (aU, .inl (cI, 300, .inl vsU))]) ⟨hx, hb, hml, hown, hts⟩ (cwV 3 hts gX4_bar_X3_isBarred rfl rfl rfl (by decide +kernel) ⟨Nat.le_of_ble_eq_true rfl, Nat.le_of_ble_eq_true rfl⟩) hK hN hA hP hD hS [7, 8] [0, 1, 2, 3, 4, 5, 6, 9, 10, 11, 12, 13] rfl rfl (by decide) (by decide) (by decide) 0 rfl rfl (k_X3_isBarred l G cI cJ cZ aT aK _ N vtN vtK x1 x2 x3 _ hw) rfl hl.1 rfl (Nat.le_of_ble_eq_true rfl) dX4_bar_53 ⟨Nat.le_of_ble_eq_true rfl, Nat.le_of_ble_eq_true rfl⟩ (fun r_9 u_ H locs hw hP hD hS => ?_)
            replace hP : va_P G vwCl (wdX cI cJ cZ aX aY aS aR aE aC aF aT aK aH aW aA aQ aU vxL vxY vsB vrN vrA vrE vrC vrF vtN vtK vhN vhW vhA vsQ vsU) H := hP.sub [0, 1, 2, 3, 4, 5, 6, 12, 13, 7, 8, 9, 10, 11] rfl
            replace hD : va_D A (wdX cI cJ cZ aX aY aS aR aE aC aF aT aK aH aW aA aQ aU vxL vxY vsB vrN vrA vrE vrC vrF vtN vtK vhN vhW vhA vsQ vsU) := hD.sub [0, 1, 2, 3, 4, 5, 6, 12, 13, 7, 8, 9, 10, 11] (by decide) rfl
            refine lv_iload hx hb dX4_bar_56 (lv_at hl 4 rfl) ?_
            refine lv_icmp_ne (tgt := 69) hx hb dX4_bar_58 (by decide) (fun c_10 => ?_) (fun c_10 => ?_)
            · replace hw := hw.1 c_10
              refine lv_iload hx hb dX4_bar_69 (lv_at hl 4 rfl) ?_
              refine lv_if_ne (tgt := 92) hx hb dX4_bar_71 (by decide) (fun c_11 => ?_) (fun c_11 => ?_)
              · replace hw := hw.1 c_11
                refine lv_aload_n hx hb dX4_bar_92 rfl (lv_at hl 0 rfl) ?_
                refine va_get (D := G) (ci := 4) (v := .ref aT) (C := RX4) (T := TX4) (N := 5) hx hb hts (fun _ h => List.mem_cons_of_mem _ (List.mem_append_left _ (List.mem_append_left _ (List.mem_append_right _ h)))) hown hK hP 0 rfl rfl 1 (by decide) (hts _ (List.mem_of_getElem? (i := 2) rfl)) (fun _ h9 => h9) rfl dX4_bar_93 ?_
                refine va_getN (D := G) (ci := 3) (v := .int vtN) (C := RX3) (T := TX3) (N := 2) hx hb hts (fun _ h => List.mem_cons_of_mem _ (List.mem_append_left _ (List.mem_append_right _ h))) hown hK hP 7 rfl rfl 0 (by decide) (va_Nw.use rfl (hN _ (List.mem_of_getElem? (i := 0) rfl))) (fun _ h9 => h9) rfl dX4_bar_96 ?_
                refine lv_sipush (v := (200 : Int32)) hx hb dX4_bar_99 (by decide) ?_
                refine lv_icmp_lt (tgt := 108) hx hb dX4_bar_102 (by decide) (fun c_12 => ?_) (fun c_12 => ?_)
                · replace hw := hw.1 c_12
                  refine lv_aload_n hx hb dX4_bar_108 rfl (lv_at hl 0 rfl) ?_
                  refine va_get (D := G) (ci := 4) (v := .ref aT) (C := RX4) (T := TX4) (N := 5) hx hb hts (fun _ h => List.mem_cons_of_mem _ (List.mem_append_left _ (List.mem_append_left _ (List.mem_append_right _ h)))) hown hK hP 0 rfl rfl 1 (by decide) (hts _ (List.mem_of_getElem? (i := 2) rfl)) (fun _ h9 => h9) rfl dX4_bar_109 ?_
                  refine lv_iload_n hx hb dX4_bar_112 rfl (lv_at hl 1 rfl) ?_
                  refine lv_iload_n hx hb dX4_bar_113 rfl (lv_at hl 2 rfl) ?_
                  refine lv_iload_n hx hb dX4_bar_114 rfl (lv_at hl 3 rfl) ?_
                  refine kc_Vv (As := [.int x1, .int x2, .int x3]) (rest := []) (wc := wdT cI cJ cZ aT aK vtN vtK) (wr := [(aX, .inr (4, [.ref aR, .ref aT, .ref aS, .ref aY, .int vxL])), (aY, .inl (cI, 4001, .inl vxY)), (aS, .inr (2, [.ref aR, .ref aT, .ref aW, .ref aH, .ref aQ, .ref aU, .int vsB])), (aR, .inr (1, [.int vrN, .int vrA, .ref aE, .ref aC, .ref aF])), (aE, .inl (cI, 4000, .inl vrE)), (aC, .inl (cI, 4000, .inl vrC)), (aF, .inl (cI, 301, .inl vrF)), (aH, .inr (0, [.ref aW, .ref aA, .int vhN])), (aW, .inl (cJ, 4000, .inr (.inl vhW))), (aA, .inl (cI, 4000, .inl vhA)), (aQ, .inl (cI, 4000, .inl vsQ)), (aU, .inl (cI, 300, .inl vsU))]) ⟨hx, hb, hml, hown, hts⟩ (cwV 3 hts gX4_bar_X3_add rfl rfl rfl (by decide +kernel) ⟨Nat.le_of_ble_eq_true rfl, Nat.le_of_ble_eq_true rfl⟩) hK hN hA hP hD hS [7, 8] [0, 1, 2, 3, 4, 5, 6, 9, 10, 11, 12, 13] rfl rfl (by decide) (by decide) (by decide) 0 rfl rfl (k_X3_add l G cI cJ cZ aT aK _ N vtN vtK x1 x2 x3 _ hw) rfl hl.1 rfl (Nat.le_of_ble_eq_true rfl) dX4_bar_115 ⟨Nat.le_of_ble_eq_true rfl, Nat.le_of_ble_eq_true rfl⟩ (fun u_ H locs hw hP hD hS => ?_)
                  obtain ⟨vtN_14, vtK_15⟩ := u_
                  replace hP : va_P G vwCl (wdX cI cJ cZ aX aY aS aR aE aC aF aT aK aH aW aA aQ aU vxL vxY vsB vrN vrA vrE vrC vrF vtN_14 vtK_15 vhN vhW vhA vsQ vsU) H := hP.sub [0, 1, 2, 3, 4, 5, 6, 12, 13, 7, 8, 9, 10, 11] rfl
                  replace hD : va_D A (wdX cI cJ cZ aX aY aS aR aE aC aF aT aK aH aW aA aQ aU vxL vxY vsB vrN vrA vrE vrC vrF vtN_14 vtK_15 vhN vhW vhA vsQ vsU) := hD.sub [0, 1, 2, 3, 4, 5, 6, 12, 13, 7, 8, 9, 10, 11] (by decide) rfl
                  refine lv_aload_n hx hb dX4_bar_118 rfl (lv_at hl 0 rfl) ?_
                  refine va_get (D := G) (ci := 4) (v := .ref aT) (C := RX4) (T := TX4) (N := 5) hx hb hts (fun _ h => List.mem_cons_of_mem _ (List.mem_append_left _ (List.mem_append_left _ (List.mem_append_right _ h)))) hown hK hP 0 rfl rfl 1 (by decide) (hts _ (List.mem_of_getElem? (i := 2) rfl)) (fun _ h9 => h9) rfl dX4_bar_119 ?_
                  refine va_getN (D := G) (ci := 3) (v := .int vtN_14) (C := RX3) (T := TX3) (N := 2) hx hb hts (fun _ h => List.mem_cons_of_mem _ (List.mem_append_left _ (List.mem_append_right _ h))) hown hK hP 7 rfl rfl 0 (by decide) (va_Nw.use rfl (hN _ (List.mem_of_getElem? (i := 0) rfl))) (fun _ h9 => h9) rfl dX4_bar_122 ?_
                  exact hret 125 vtN_14 (vtN_14, vtK_15) _ _ _ dX4_bar_125 hw hP hD hS
                · replace hw := hw.2 c_12
                  refine lv_bipush (v := (-12 : Int32)) hx hb dX4_bar_105 (by decide) ?_
                  exact hret 107 (-12 : Int32) (vtN, vtK) _ _ _ dX4_bar_107 hw hP hD hS
              · replace hw := hw.2 c_11
                refine lv_aload_n hx hb dX4_bar_74 rfl (lv_at hl 0 rfl) ?_
                refine va_get (D := G) (ci := 4) (v := .ref aT) (C := RX4) (T := TX4) (N := 5) hx hb hts (fun _ h => List.mem_cons_of_mem _ (List.mem_append_left _ (List.mem_append_left _ (List.mem_append_right _ h)))) hown hK hP 0 rfl rfl 1 (by decide) (hts _ (List.mem_of_getElem? (i := 2) rfl)) (fun _ h9 => h9) rfl dX4_bar_75 ?_
                refine lv_iload_n hx hb dX4_bar_78 rfl (lv_at hl 1 rfl) ?_
                refine lv_iload_n hx hb dX4_bar_79 rfl (lv_at hl 2 rfl) ?_
                refine lv_iload_n hx hb dX4_bar_80 rfl (lv_at hl 3 rfl) ?_
                refine kc_Vv (As := [.int x1, .int x2, .int x3]) (rest := []) (wc := wdT cI cJ cZ aT aK vtN vtK) (wr := [(aX, .inr (4, [.ref aR, .ref aT, .ref aS, .ref aY, .int vxL])), (aY, .inl (cI, 4001, .inl vxY)), (aS, .inr (2, [.ref aR, .ref aT, .ref aW, .ref aH, .ref aQ, .ref aU, .int vsB])), (aR, .inr (1, [.int vrN, .int vrA, .ref aE, .ref aC, .ref aF])), (aE, .inl (cI, 4000, .inl vrE)), (aC, .inl (cI, 4000, .inl vrC)), (aF, .inl (cI, 301, .inl vrF)), (aH, .inr (0, [.ref aW, .ref aA, .int vhN])), (aW, .inl (cJ, 4000, .inr (.inl vhW))), (aA, .inl (cI, 4000, .inl vhA)), (aQ, .inl (cI, 4000, .inl vsQ)), (aU, .inl (cI, 300, .inl vsU))]) ⟨hx, hb, hml, hown, hts⟩ (cwV 3 hts gX4_bar_X3_remove rfl rfl rfl (by decide +kernel) ⟨Nat.le_of_ble_eq_true rfl, Nat.le_of_ble_eq_true rfl⟩) hK hN hA hP hD hS [7, 8] [0, 1, 2, 3, 4, 5, 6, 9, 10, 11, 12, 13] rfl rfl (by decide) (by decide) (by decide) 0 rfl rfl (k_X3_remove l G cI cJ cZ aT aK _ N vtN vtK x1 x2 x3 _ hw) rfl hl.1 rfl (Nat.le_of_ble_eq_true rfl) dX4_bar_81 ⟨Nat.le_of_ble_eq_true rfl, Nat.le_of_ble_eq_true rfl⟩ (fun u_ H locs hw hP hD hS => ?_)
                obtain ⟨vtN_17, vtK_18⟩ := u_
                replace hP : va_P G vwCl (wdX cI cJ cZ aX aY aS aR aE aC aF aT aK aH aW aA aQ aU vxL vxY vsB vrN vrA vrE vrC vrF vtN_17 vtK_18 vhN vhW vhA vsQ vsU) H := hP.sub [0, 1, 2, 3, 4, 5, 6, 12, 13, 7, 8, 9, 10, 11] rfl
                replace hD : va_D A (wdX cI cJ cZ aX aY aS aR aE aC aF aT aK aH aW aA aQ aU vxL vxY vsB vrN vrA vrE vrC vrF vtN_17 vtK_18 vhN vhW vhA vsQ vsU) := hD.sub [0, 1, 2, 3, 4, 5, 6, 12, 13, 7, 8, 9, 10, 11] (by decide) rfl
                refine lv_aload_n hx hb dX4_bar_84 rfl (lv_at hl 0 rfl) ?_
                refine va_get (D := G) (ci := 4) (v := .ref aT) (C := RX4) (T := TX4) (N := 5) hx hb hts (fun _ h => List.mem_cons_of_mem _ (List.mem_append_left _ (List.mem_append_left _ (List.mem_append_right _ h)))) hown hK hP 0 rfl rfl 1 (by decide) (hts _ (List.mem_of_getElem? (i := 2) rfl)) (fun _ h9 => h9) rfl dX4_bar_85 ?_
                refine va_getN (D := G) (ci := 3) (v := .int vtN_17) (C := RX3) (T := TX3) (N := 2) hx hb hts (fun _ h => List.mem_cons_of_mem _ (List.mem_append_left _ (List.mem_append_right _ h))) hown hK hP 7 rfl rfl 0 (by decide) (va_Nw.use rfl (hN _ (List.mem_of_getElem? (i := 0) rfl))) (fun _ h9 => h9) rfl dX4_bar_88 ?_
                exact hret 91 vtN_17 (vtN_17, vtK_18) _ _ _ dX4_bar_91 hw hP hD hS
            · replace hw := hw.2 c_10
              refine lv_aload_n hx hb dX4_bar_61 rfl (lv_at hl 0 rfl) ?_
              refine va_get (D := G) (ci := 4) (v := .ref aT) (C := RX4) (T := TX4) (N := 5) hx hb hts (fun _ h => List.mem_cons_of_mem _ (List.mem_append_left _ (List.mem_append_left _ (List.mem_append_right _ h)))) hown hK hP 0 rfl rfl 1 (by decide) (hts _ (List.mem_of_getElem? (i := 2) rfl)) (fun _ h9 => h9) rfl dX4_bar_62 ?_
              refine va_getN (D := G) (ci := 3) (v := .int vtN) (C := RX3) (T := TX3) (N := 2) hx hb hts (fun _ h => List.mem_cons_of_mem _ (List.mem_append_left _ (List.mem_append_right _ h))) hown hK hP 7 rfl rfl 0 (by decide) (va_Nw.use rfl (hN _ (List.mem_of_getElem? (i := 0) rfl))) (fun _ h9 => h9) rfl dX4_bar_65 ?_
              exact hret 68 vtN (vtN, vtK) _ _ _ dX4_bar_68 hw hP hD hS
          · replace hw := hw.2 c_8
            refine lv_bipush (v := (-14 : Int32)) hx hb dX4_bar_43 (by decide) ?_
            exact hret 45 (-14 : Int32) (vtN, vtK) _ _ _ dX4_bar_45 hw hP hD hS
def w_X4_length (N : Nat) (vxL : Int32)  (post : Int32 → Prop) : Prop :=
  post vxL
abbrev rm_X4_length : Room := { frames := 0, cells := 0, slots := 0, locals := 0 }
set_option maxHeartbeats 4000000 in
set_option maxRecDepth 100000 in
theorem k_X4_length (l : Launch) (G : va_G) (cI cJ cZ : ClassId) (aX aY aS aR aE aC aF aT aK aH aW aA aQ aU : Nat) (sz N : Nat) (vxL : Int32) (vxY : Nat → Int32) (vsB : Int32) (vrN : Int32) (vrA : Int32) (vrE : Nat → Int32) (vrC : Nat → Int32) (vrF : Nat → Int32) (vtN : Int32) (vtK : Nat → Int32) (vhN : Int32) (vhW : Nat → Int64) (vhA : Nat → Int32) (vsQ : Nat → Int32) (vsU : Nat → Int32)  (post : Int32 → Prop) (hw : w_X4_length N vxL post) : Met l yX4_length wsX4_length rm_X4_length (kPc G (tyL cI cJ cZ) [.ref aX] sz (wdX cI cJ cZ aX aY aS aR aE aC aF aT aK aH aW aA aQ aU vxL vxY vsB vrN vrA vrE vrC vrF vtN vtK vhN vhW vhA vsQ vsU)) (va_Qi (fun (r : Int32) (u : Unit) => post r ) (kB G (tyL cI cJ cZ) (va_A (wdX cI cJ cZ aX aY aS aR aE aC aF aT aK aH aW aA aQ aU vxL vxY vsB vrN vrA vrE vrC vrF vtN vtK vhN vhW vhA vsQ vsU) sz) (fun (u : Unit) => wdX cI cJ cZ aX aY aS aR aE aC aF aT aK aH aW aA aQ aU vxL vxY vsB vrN vrA vrE vrC vrF vtN vtK vhN vhW vhA vsQ vsU)) (va_A (wdX cI cJ cZ aX aY aS aR aE aC aF aT aK aH aW aA aQ aU vxL vxY vsB vrN vrA vrE vrC vrF vtN vtK vhN vhW vhA vsQ vsU) sz)) 0 0 (va_A (wdX cI cJ cZ aX aY aS aR aE aC aF aT aK aH aW aA aQ aU vxL vxY vsB vrN vrA vrE vrC vrF vtN vtK vhN vhW vhA vsQ vsU) sz) := by
  refine km_i (cc := cX4_length) (maxL := 1) (by decide) rfl (Nat.le_of_ble_eq_true rfl) ?_
  intro p e s m below meth c A Q ls hx hb hml hts hown hnm hK hN hA hP hD hS hl hret
  replace hown : s.vm.findClass RX4 = some m.cls := hown
  replace hl : lv_has ls 1 [(0, .ref aX)] := hl
  unfold w_X4_length at hw
  refine lv_aload_n hx hb dX4_length_0 rfl (lv_at hl 0 rfl) ?_
  refine va_get (D := G) (ci := 4) (v := .int vxL) (C := RX4) (T := TX4) (N := 5) hx hb hts (fun _ h => List.mem_cons_of_mem _ (List.mem_append_right _ h)) hown hK hP 0 rfl rfl 4 (by decide) (hts _ (List.mem_of_getElem? (i := 1) rfl)) (fun _ h9 => h9) rfl dX4_length_1 ?_
  exact hret 4 vxL () _ _ _ dX4_length_4 hw hP hD hS
def w_X4_node (N : Nat) (vxL : Int32) (vxY : Nat → Int32) (x1 : Int32) (post : Int32 → Prop) : Prop :=
  ((x1 < (0 : Int32) → post (-1 : Int32)) ∧ (¬ (x1 < (0 : Int32)) → ((vxL ≤ x1 → post (-1 : Int32)) ∧ (¬ (vxL ≤ x1) → vp_in x1 4001 ∧ post (vxY x1.toNatClampNeg)))))
abbrev rm_X4_node : Room := { frames := 0, cells := 0, slots := 0, locals := 0 }
set_option maxHeartbeats 4000000 in
set_option maxRecDepth 100000 in
theorem k_X4_node (l : Launch) (G : va_G) (cI cJ cZ : ClassId) (aX aY aS aR aE aC aF aT aK aH aW aA aQ aU : Nat) (sz N : Nat) (vxL : Int32) (vxY : Nat → Int32) (vsB : Int32) (vrN : Int32) (vrA : Int32) (vrE : Nat → Int32) (vrC : Nat → Int32) (vrF : Nat → Int32) (vtN : Int32) (vtK : Nat → Int32) (vhN : Int32) (vhW : Nat → Int64) (vhA : Nat → Int32) (vsQ : Nat → Int32) (vsU : Nat → Int32) (x1 : Int32) (post : Int32 → Prop) (hw : w_X4_node N vxL vxY x1 post) : Met l yX4_node wsX4_node rm_X4_node (kPc G (tyL cI cJ cZ) [.ref aX, .int x1] sz (wdX cI cJ cZ aX aY aS aR aE aC aF aT aK aH aW aA aQ aU vxL vxY vsB vrN vrA vrE vrC vrF vtN vtK vhN vhW vhA vsQ vsU)) (va_Qi (fun (r : Int32) (u : Unit) => post r ) (kB G (tyL cI cJ cZ) (va_A (wdX cI cJ cZ aX aY aS aR aE aC aF aT aK aH aW aA aQ aU vxL vxY vsB vrN vrA vrE vrC vrF vtN vtK vhN vhW vhA vsQ vsU) sz) (fun (u : Unit) => wdX cI cJ cZ aX aY aS aR aE aC aF aT aK aH aW aA aQ aU vxL vxY vsB vrN vrA vrE vrC vrF vtN vtK vhN vhW vhA vsQ vsU)) (va_A (wdX cI cJ cZ aX aY aS aR aE aC aF aT aK aH aW aA aQ aU vxL vxY vsB vrN vrA vrE vrC vrF vtN vtK vhN vhW vhA vsQ vsU) sz)) 0 0 (va_A (wdX cI cJ cZ aX aY aS aR aE aC aF aT aK aH aW aA aQ aU vxL vxY vsB vrN vrA vrE vrC vrF vtN vtK vhN vhW vhA vsQ vsU) sz) := by
  refine km_i (cc := cX4_node) (maxL := 2) (by decide) rfl (Nat.le_of_ble_eq_true rfl) ?_
  intro p e s m below meth c A Q ls hx hb hml hts hown hnm hK hN hA hP hD hS hl hret
  replace hown : s.vm.findClass RX4 = some m.cls := hown
  replace hl : lv_has ls 2 [(0, .ref aX), (1, .int x1)] := hl
  unfold w_X4_node at hw
  refine lv_iload_n hx hb dX4_node_0 rfl (lv_at hl 1 rfl) ?_
  refine lv_if_lt (tgt := 21) hx hb dX4_node_1 (by decide) (fun c_1 => ?_) (fun c_1 => ?_)
  · replace hw := hw.1 c_1
    refine lv_iconst (v := (-1 : Int32)) hx hb dX4_node_21 (by decide) ?_
    exact hret 22 (-1 : Int32) () _ _ _ dX4_node_22 hw hP hD hS
  · replace hw := hw.2 c_1
    refine lv_iload_n hx hb dX4_node_4 rfl (lv_at hl 1 rfl) ?_
    refine lv_aload_n hx hb dX4_node_5 rfl (lv_at hl 0 rfl) ?_
    refine va_get (D := G) (ci := 4) (v := .int vxL) (C := RX4) (T := TX4) (N := 5) hx hb hts (fun _ h => List.mem_cons_of_mem _ (List.mem_append_right _ h)) hown hK hP 0 rfl rfl 4 (by decide) (hts _ (List.mem_of_getElem? (i := 1) rfl)) (fun _ h9 => h9) rfl dX4_node_6 ?_
    refine lv_icmp_ge (tgt := 21) hx hb dX4_node_9 (by decide) (fun c_2 => ?_) (fun c_2 => ?_)
    · replace hw := hw.1 c_2
      refine lv_iconst (v := (-1 : Int32)) hx hb dX4_node_21 (by decide) ?_
      exact hret 22 (-1 : Int32) () _ _ _ dX4_node_22 hw hP hD hS
    · replace hw := hw.2 c_2
      refine lv_aload_n hx hb dX4_node_12 rfl (lv_at hl 0 rfl) ?_
      refine va_get (D := G) (ci := 4) (v := .ref aY) (C := RX4) (T := TX4) (N := 5) hx hb hts (fun _ h => List.mem_cons_of_mem _ (List.mem_append_right _ h)) hown hK hP 0 rfl rfl 3 (by decide) (hts _ (List.mem_of_getElem? (i := 2) rfl)) (fun _ h9 => h9) rfl dX4_node_13 ?_
      refine lv_iload_n hx hb dX4_node_16 rfl (lv_at hl 1 rfl) ?_
      have h_3 := hw.1
      replace hw := hw.2
      refine va_iald hx hb hK hP 1 0 rfl rfl h_3 dX4_node_17 ?_
      refine lv_goto (tgt := 22) hx hb dX4_node_18 (by decide) ?_
      exact hret 22 (vxY x1.toNatClampNeg) () _ _ _ dX4_node_22 hw hP hD hS
