def w_X4_layWay_b18_B (N : Nat) (vsB : Int32) (vrN : Int32) (vrE : Nat → Int32) (vrC : Nat → Int32) (vrF : Nat → Int32) (vtN : Int32) (vtK : Nat → Int32) (vhW : Nat → Int64) (post : Int32 → (Nat → Int32) → Prop) (k18 : Int32 → (Nat → Int32) → Int32 → Int32 → Int64 → Int32 → Prop) (vxL_b18 : Int32) (vxY_b18 : Nat → Int32) (x4_b18 : Int32) (x5_b18 : Int32) (x6_b18 : Int64) (x8_b18 : Int32) : Prop :=
  (((4000 : Int32) ≤ x8_b18 → post vxL_b18 vxY_b18) ∧ (¬ ((4000 : Int32) ≤ x8_b18) → (((lg_cmp x6_b18 (0 : Int64)) ≤ (0 : Int32) → post vxL_b18 vxY_b18) ∧ (¬ ((lg_cmp x6_b18 (0 : Int64)) ≤ (0 : Int32)) → w_X2_leastArcBackTo N vsB vrN vrE vrF vtN vtK vhW x5_b18 x4_b18 x6_b18 (fun r_6 => ((¬ r_6 = (-1 : Int32) → w_X1_weightOf N vrC r_6 (fun r_8 => ∀ x6_9 : Int64, x6_9 = (x6_b18 - r_8) → w_X1_originOf N vrE r_6 (fun r_11 => w_X4_append N vxL_b18 vxY_b18 r_11 (fun vxL_13 vxY_14 => ∀ x8_15 : Int32, x8_15 = x8_b18 + (1 : Int32) → k18 vxL_13 vxY_14 x5_b18 r_11 x6_9 x8_15)))) ∧ (r_6 = (-1 : Int32) → post vxL_b18 vxY_b18)))))))
def w_X4_layWay_b18 (N : Nat) (vsB : Int32) (vrN : Int32) (vrE : Nat → Int32) (vrC : Nat → Int32) (vrF : Nat → Int32) (vtN : Int32) (vtK : Nat → Int32) (vhW : Nat → Int64) (post : Int32 → (Nat → Int32) → Prop) : Nat → Int32 → (Nat → Int32) → Int32 → Int32 → Int64 → Int32 → Prop
  | 0, _, _, _, _, _, _ => False
  | n + 1, vxL_b18, vxY_b18, x4_b18, x5_b18, x6_b18, x8_b18 => w_X4_layWay_b18_B N vsB vrN vrE vrC vrF vtN vtK vhW post (w_X4_layWay_b18 N vsB vrN vrE vrC vrF vtN vtK vhW post n) vxL_b18 vxY_b18 x4_b18 x5_b18 x6_b18 x8_b18
def w_X4_layWay (N : Nat) (vxL : Int32) (vxY : Nat → Int32) (vsB : Int32) (vrN : Int32) (vrE : Nat → Int32) (vrC : Nat → Int32) (vrF : Nat → Int32) (vtN : Int32) (vtK : Nat → Int32) (vhW : Nat → Int64) (x1 : Int32) (x2 : Int64) (post : Int32 → (Nat → Int32) → Prop) : Prop :=
  w_X4_append N vxL vxY x1 (fun vxL_2 vxY_3 => w_X4_layWay_b18 N vsB vrN vrE vrC vrF vtN vtK vhW post N vxL_2 vxY_3 (-1 : Int32) x1 x2 (0 : Int32))
abbrev rm_X4_layWay : Room := { frames := 4, cells := 0, slots := 0, locals := 101 }
set_option maxHeartbeats 4000000 in
set_option maxRecDepth 100000 in
theorem k_X4_layWay (l : Launch) (G : va_G) (cI cJ cZ : ClassId) (aX aY aS aR aE aC aF aT aK aH aW aA aQ aU : Nat) (sz N : Nat) (vxL : Int32) (vxY : Nat → Int32) (vsB : Int32) (vrN : Int32) (vrA : Int32) (vrE : Nat → Int32) (vrC : Nat → Int32) (vrF : Nat → Int32) (vtN : Int32) (vtK : Nat → Int32) (vhN : Int32) (vhW : Nat → Int64) (vhA : Nat → Int32) (vsQ : Nat → Int32) (vsU : Nat → Int32) (x1 : Int32) (x2 : Int64) (post : Int32 → (Nat → Int32) → Prop) (hw : w_X4_layWay N vxL vxY vsB vrN vrE vrC vrF vtN vtK vhW x1 x2 post) : Met l yX4_layWay wsX4_layWay rm_X4_layWay (kPc G (tyL cI cJ cZ) [.ref aX, .int x1, .long x2] sz (wdX cI cJ cZ aX aY aS aR aE aC aF aT aK aH aW aA aQ aU vxL vxY vsB vrN vrA vrE vrC vrF vtN vtK vhN vhW vhA vsQ vsU)) (va_Qv (fun (u : Int32 × (Nat → Int32)) => post u.1 u.2) (kB G (tyL cI cJ cZ) (va_A (wdX cI cJ cZ aX aY aS aR aE aC aF aT aK aH aW aA aQ aU vxL vxY vsB vrN vrA vrE vrC vrF vtN vtK vhN vhW vhA vsQ vsU) sz) (fun (u : Int32 × (Nat → Int32)) => wdX cI cJ cZ aX aY aS aR aE aC aF aT aK aH aW aA aQ aU u.1 u.2 vsB vrN vrA vrE vrC vrF vtN vtK vhN vhW vhA vsQ vsU)) (va_A (wdX cI cJ cZ aX aY aS aR aE aC aF aT aK aH aW aA aQ aU vxL vxY vsB vrN vrA vrE vrC vrF vtN vtK vhN vhW vhA vsQ vsU) sz)) 0 0 (va_A (wdX cI cJ cZ aX aY aS aR aE aC aF aT aK aH aW aA aQ aU vxL vxY vsB vrN vrA vrE vrC vrF vtN vtK vhN vhW vhA vsQ vsU) sz) := by
  refine km_v (cc := cX4_layWay) (maxL := 10) (by decide) rfl (Nat.le_of_ble_eq_true rfl) ?_
  intro p e s m below meth c A Q ls hx hb hml hts hown hnm hK hN hA hP hD hS hl hret
  replace hown : s.vm.findClass RX4 = some m.cls := hown
  replace hl : lv_has ls 10 [(0, .ref aX), (1, .int x1), (2, .long x2)] := hl
  have b18 : ∀ (n18 : Nat) (vxL_b18 : Int32) (vxY_b18 : Nat → Int32) (x4_b18 : Int32) (x5_b18 : Int32) (x6_b18 : Int64) (x8_b18 : Int32) (H : Heap) (locs : List Loc) (ls : Array Slot), w_X4_layWay_b18 N vsB vrN vrE vrC vrF vtN vtK vhW post n18 vxL_b18 vxY_b18 x4_b18 x5_b18 x6_b18 x8_b18 → va_P G vwCl (wdX cI cJ cZ aX aY aS aR aE aC aF aT aK aH aW aA aQ aU vxL_b18 vxY_b18 vsB vrN vrA vrE vrC vrF vtN vtK vhN vhW vhA vsQ vsU) H → va_D A (wdX cI cJ cZ aX aY aS aR aE aC aF aT aK aH aW aA aQ aU vxL_b18 vxY_b18 vsB vrN vrA vrE vrC vrF vtN vtK vhN vhW vhA vsQ vsU) → va_S A s.heap H locs → lv_has ls 10 [(0, .ref aX), (4, .int x4_b18), (5, .int x5_b18), (6, .long x6_b18), (8, .int x8_b18)] → W p l e rm_X4_layWay s m ([.ref aX, .int x1, .long x2] : List Value).toArray below meth c H locs 0 0 Q (F0 m 18 ls []) := by
    intro n18
    induction n18 with
    | zero => intro vxL_b18 vxY_b18 x4_b18 x5_b18 x6_b18 x8_b18 H locs ls hw; exact hw.elim
    | succ n18 ih18 =>
      intro vxL_b18 vxY_b18 x4_b18 x5_b18 x6_b18 x8_b18 H locs ls hw hP hD hS hl
      replace hw : w_X4_layWay_b18_B N vsB vrN vrE vrC vrF vtN vtK vhW post (w_X4_layWay_b18 N vsB vrN vrE vrC vrF vtN vtK vhW post n18) vxL_b18 vxY_b18 x4_b18 x5_b18 x6_b18 x8_b18 := hw
      unfold w_X4_layWay_b18_B at hw
      refine lv_iload hx hb dX4_layWay_18 (lv_at hl 4 rfl) ?_
      refine lv_sipush (v := (4000 : Int32)) hx hb dX4_layWay_20 (by decide) ?_
      refine lv_icmp_ge (tgt := 96) hx hb dX4_layWay_23 (by decide) (fun c_4 => ?_) (fun c_4 => ?_)
      · replace hw := hw.1 c_4
        exact hret 96 (vxL_b18, vxY_b18) _ _ _ dX4_layWay_96 hw hP hD hS
      · replace hw := hw.2 c_4
        refine lv_lload hx hb dX4_layWay_26 (lv_at hl 3 rfl) ?_
        refine lv_lconst (v := (0 : Int64)) hx hb dX4_layWay_28 (by decide) ?_
        refine W.lcmp hx hb dX4_layWay_29 ?_
        refine lv_if_le (tgt := 96) hx hb dX4_layWay_30 (by decide) (fun c_5 => ?_) (fun c_5 => ?_)
        · replace hw := hw.1 c_5
          exact hret 96 (vxL_b18, vxY_b18) _ _ _ dX4_layWay_96 hw hP hD hS
        · replace hw := hw.2 c_5
          refine lv_aload_n hx hb dX4_layWay_33 rfl (lv_at hl 0 rfl) ?_
          refine va_get (D := G) (ci := 4) (v := .ref aS) (C := RX4) (T := TX4) (N := 5) hx hb hts (fun _ h => List.mem_cons_of_mem _ (List.mem_append_left _ (List.mem_append_left _ (List.mem_append_left _ (List.mem_append_right _ h))))) hown hK hP 0 rfl rfl 2 (by decide) (hts _ (List.mem_of_getElem? (i := 1) rfl)) (fun _ h9 => h9) rfl dX4_layWay_34 ?_
          refine lv_iload hx hb dX4_layWay_37 (lv_at hl 2 rfl) ?_
          refine lv_iload hx hb dX4_layWay_39 (lv_at hl 1 rfl) ?_
          refine lv_lload hx hb dX4_layWay_41 (lv_at hl 3 rfl) ?_
          refine kc_Vi (As := [.int x5_b18, .int x4_b18, .long x6_b18]) (rest := []) (wc := wdS cI cJ cZ aS aR aE aC aF aT aK aH aW aA aQ aU vsB vrN vrA vrE vrC vrF vtN vtK vhN vhW vhA vsQ vsU) (wr := [(aX, .inr (4, [.ref aR, .ref aT, .ref aS, .ref aY, .int vxL_b18])), (aY, .inl (cI, 4001, .inl vxY_b18))]) ⟨hx, hb, hml, hown, hts⟩ (cwV 3 hts gX4_layWay_X2_leastArcBackTo rfl rfl rfl (by decide +kernel) ⟨Nat.le_of_ble_eq_true rfl, Nat.le_of_ble_eq_true rfl⟩) hK hN hA hP hD hS [2, 3, 4, 5, 6, 7, 8, 9, 10, 11, 12, 13] [0, 1] rfl rfl (by decide) (by decide) (by decide) 0 rfl rfl (k_X2_leastArcBackTo l G cI cJ cZ aS aR aE aC aF aT aK aH aW aA aQ aU _ N vsB vrN vrA vrE vrC vrF vtN vtK vhN vhW vhA vsQ vsU x5_b18 x4_b18 x6_b18 _ hw) rfl hl.1 rfl (Nat.le_of_ble_eq_true rfl) dX4_layWay_43 ⟨Nat.le_of_ble_eq_true rfl, Nat.le_of_ble_eq_true rfl⟩ (fun r_6 u_ H locs hw hP hD hS => ?_)
          replace hP : va_P G vwCl (wdX cI cJ cZ aX aY aS aR aE aC aF aT aK aH aW aA aQ aU vxL_b18 vxY_b18 vsB vrN vrA vrE vrC vrF vtN vtK vhN vhW vhA vsQ vsU) H := hP.sub [0, 1, 2, 3, 4, 5, 6, 7, 8, 9, 10, 11, 12, 13] rfl
          replace hD : va_D A (wdX cI cJ cZ aX aY aS aR aE aC aF aT aK aH aW aA aQ aU vxL_b18 vxY_b18 vsB vrN vrA vrE vrC vrF vtN vtK vhN vhW vhA vsQ vsU) := hD.sub [0, 1, 2, 3, 4, 5, 6, 7, 8, 9, 10, 11, 12, 13] (by decide) rfl
          refine lv_istore (lv' := [(9, .int r_6), (0, .ref aX), (4, .int x4_b18), (5, .int x5_b18), (6, .long x6_b18), (8, .int x8_b18)]) hx hb dX4_layWay_46 hl (by decide) rfl (fun ls hl => ?_)
          refine lv_iload hx hb dX4_layWay_48 (lv_at hl 0 rfl) ?_
          refine lv_iconst (v := (-1 : Int32)) hx hb dX4_layWay_50 (by decide) ?_
          refine lv_icmp_ne (tgt := 55) hx hb dX4_layWay_51 (by decide) (fun c_7 => ?_) (fun c_7 => ?_)
          · replace hw := hw.1 c_7
            refine lv_lload hx hb dX4_layWay_55 (lv_at hl 4 rfl) ?_
            refine lv_aload_n hx hb dX4_layWay_57 rfl (lv_at hl 1 rfl) ?_
            refine va_get (D := G) (ci := 4) (v := .ref aR) (C := RX4) (T := TX4) (N := 5) hx hb hts (fun _ h => List.mem_cons_of_mem _ (List.mem_append_left _ (List.mem_append_left _ (List.mem_append_left _ (List.mem_append_right _ h))))) hown hK hP 0 rfl rfl 0 (by decide) (hts _ (List.mem_of_getElem? (i := 2) rfl)) (fun _ h9 => h9) rfl dX4_layWay_58 ?_
            refine lv_iload hx hb dX4_layWay_61 (lv_at hl 0 rfl) ?_
            refine kc_Vl (As := [.int r_6]) (rest := [.long x6_b18]) (wc := wdR cI cJ cZ aR aE aC aF vrN vrA vrE vrC vrF) (wr := [(aX, .inr (4, [.ref aR, .ref aT, .ref aS, .ref aY, .int vxL_b18])), (aY, .inl (cI, 4001, .inl vxY_b18)), (aS, .inr (2, [.ref aR, .ref aT, .ref aW, .ref aH, .ref aQ, .ref aU, .int vsB])), (aT, .inr (3, [.int vtN, .ref aK])), (aK, .inl (cI, 200, .inl vtK)), (aH, .inr (0, [.ref aW, .ref aA, .int vhN])), (aW, .inl (cJ, 4000, .inr (.inl vhW))), (aA, .inl (cI, 4000, .inl vhA)), (aQ, .inl (cI, 4000, .inl vsQ)), (aU, .inl (cI, 300, .inl vsU))]) ⟨hx, hb, hml, hown, hts⟩ (cwV 1 hts gX4_layWay_X1_weightOf rfl rfl rfl (by decide +kernel) ⟨Nat.le_of_ble_eq_true rfl, Nat.le_of_ble_eq_true rfl⟩) hK hN hA hP hD hS [3, 4, 5, 6] [0, 1, 2, 7, 8, 9, 10, 11, 12, 13] rfl rfl (by decide) (by decide) (by decide) 0 rfl rfl (k_X1_weightOf l G cI cJ cZ aR aE aC aF _ N vrN vrA vrE vrC vrF r_6 _ hw) rfl hl.1 rfl (Nat.le_of_ble_eq_true rfl) dX4_layWay_63 ⟨Nat.le_of_ble_eq_true rfl, Nat.le_of_ble_eq_true rfl⟩ (fun r_8 u_ H locs hw hP hD hS => ?_)
            replace hP : va_P G vwCl (wdX cI cJ cZ aX aY aS aR aE aC aF aT aK aH aW aA aQ aU vxL_b18 vxY_b18 vsB vrN vrA vrE vrC vrF vtN vtK vhN vhW vhA vsQ vsU) H := hP.sub [0, 1, 2, 10, 11, 12, 13, 3, 4, 5, 6, 7, 8, 9] rfl
            replace hD : va_D A (wdX cI cJ cZ aX aY aS aR aE aC aF aT aK aH aW aA aQ aU vxL_b18 vxY_b18 vsB vrN vrA vrE vrC vrF vtN vtK vhN vhW vhA vsQ vsU) := hD.sub [0, 1, 2, 10, 11, 12, 13, 3, 4, 5, 6, 7, 8, 9] (by decide) rfl
            refine lv_lsub hx hb dX4_layWay_66 ?_
            refine lv_topl (fun x6_9 e_10 => ?_)
            replace hw := hw x6_9 e_10
            refine lv_lstore (lv' := [(6, .long x6_9), (9, .int r_6), (0, .ref aX), (4, .int x4_b18), (5, .int x5_b18), (8, .int x8_b18)]) hx hb dX4_layWay_67 hl (by decide) rfl (fun ls hl => ?_)
            refine lv_iload hx hb dX4_layWay_69 (lv_at hl 4 rfl) ?_
            refine lv_istore (lv' := [(4, .int x5_b18), (6, .long x6_9), (9, .int r_6), (0, .ref aX), (5, .int x5_b18), (8, .int x8_b18)]) hx hb dX4_layWay_71 hl (by decide) rfl (fun ls hl => ?_)
            refine lv_aload_n hx hb dX4_layWay_73 rfl (lv_at hl 3 rfl) ?_
            refine va_get (D := G) (ci := 4) (v := .ref aR) (C := RX4) (T := TX4) (N := 5) hx hb hts (fun _ h => List.mem_cons_of_mem _ (List.mem_append_left _ (List.mem_append_left _ (List.mem_append_left _ (List.mem_append_right _ h))))) hown hK hP 0 rfl rfl 0 (by decide) (hts _ (List.mem_of_getElem? (i := 2) rfl)) (fun _ h9 => h9) rfl dX4_layWay_74 ?_
            refine lv_iload hx hb dX4_layWay_77 (lv_at hl 2 rfl) ?_
            refine kc_Vi (As := [.int r_6]) (rest := []) (wc := wdR cI cJ cZ aR aE aC aF vrN vrA vrE vrC vrF) (wr := [(aX, .inr (4, [.ref aR, .ref aT, .ref aS, .ref aY, .int vxL_b18])), (aY, .inl (cI, 4001, .inl vxY_b18)), (aS, .inr (2, [.ref aR, .ref aT, .ref aW, .ref aH, .ref aQ, .ref aU, .int vsB])), (aT, .inr (3, [.int vtN, .ref aK])), (aK, .inl (cI, 200, .inl vtK)), (aH, .inr (0, [.ref aW, .ref aA, .int vhN])), (aW, .inl (cJ, 4000, .inr (.inl vhW))), (aA, .inl (cI, 4000, .inl vhA)), (aQ, .inl (cI, 4000, .inl vsQ)), (aU, .inl (cI, 300, .inl vsU))]) ⟨hx, hb, hml, hown, hts⟩ (cwV 1 hts gX4_layWay_X1_originOf rfl rfl rfl (by decide +kernel) ⟨Nat.le_of_ble_eq_true rfl, Nat.le_of_ble_eq_true rfl⟩) hK hN hA hP hD hS [3, 4, 5, 6] [0, 1, 2, 7, 8, 9, 10, 11, 12, 13] rfl rfl (by decide) (by decide) (by decide) 0 rfl rfl (k_X1_originOf l G cI cJ cZ aR aE aC aF _ N vrN vrA vrE vrC vrF r_6 _ hw) rfl hl.1 rfl (Nat.le_of_ble_eq_true rfl) dX4_layWay_79 ⟨Nat.le_of_ble_eq_true rfl, Nat.le_of_ble_eq_true rfl⟩ (fun r_11 u_ H locs hw hP hD hS => ?_)
            replace hP : va_P G vwCl (wdX cI cJ cZ aX aY aS aR aE aC aF aT aK aH aW aA aQ aU vxL_b18 vxY_b18 vsB vrN vrA vrE vrC vrF vtN vtK vhN vhW vhA vsQ vsU) H := hP.sub [0, 1, 2, 10, 11, 12, 13, 3, 4, 5, 6, 7, 8, 9] rfl
            replace hD : va_D A (wdX cI cJ cZ aX aY aS aR aE aC aF aT aK aH aW aA aQ aU vxL_b18 vxY_b18 vsB vrN vrA vrE vrC vrF vtN vtK vhN vhW vhA vsQ vsU) := hD.sub [0, 1, 2, 10, 11, 12, 13, 3, 4, 5, 6, 7, 8, 9] (by decide) rfl
            refine lv_istore (lv' := [(5, .int r_11), (4, .int x5_b18), (6, .long x6_9), (9, .int r_6), (0, .ref aX), (8, .int x8_b18)]) hx hb dX4_layWay_82 hl (by decide) rfl (fun ls hl => ?_)
            refine lv_aload_n hx hb dX4_layWay_84 rfl (lv_at hl 4 rfl) ?_
            refine lv_iload hx hb dX4_layWay_85 (lv_at hl 0 rfl) ?_
            refine kc_Vv (As := [.int r_11]) (rest := []) (wc := wdX cI cJ cZ aX aY aS aR aE aC aF aT aK aH aW aA aQ aU vxL_b18 vxY_b18 vsB vrN vrA vrE vrC vrF vtN vtK vhN vhW vhA vsQ vsU) (wr := []) ⟨hx, hb, hml, hown, hts⟩ (cwV 1 hts gX4_layWay_X4_append rfl rfl rfl (by decide +kernel) ⟨Nat.le_of_ble_eq_true rfl, Nat.le_of_ble_eq_true rfl⟩) hK hN hA hP hD hS [0, 1, 2, 3, 4, 5, 6, 7, 8, 9, 10, 11, 12, 13] [] rfl rfl (by decide) (by decide) (by decide) 0 rfl rfl (k_X4_append l G cI cJ cZ aX aY aS aR aE aC aF aT aK aH aW aA aQ aU _ N vxL_b18 vxY_b18 vsB vrN vrA vrE vrC vrF vtN vtK vhN vhW vhA vsQ vsU r_11 _ hw) rfl hl.1 rfl (Nat.le_of_ble_eq_true rfl) dX4_layWay_87 ⟨Nat.le_of_ble_eq_true rfl, Nat.le_of_ble_eq_true rfl⟩ (fun u_ H locs hw hP hD hS => ?_)
            obtain ⟨vxL_13, vxY_14⟩ := u_
            replace hP : va_P G vwCl (wdX cI cJ cZ aX aY aS aR aE aC aF aT aK aH aW aA aQ aU vxL_13 vxY_14 vsB vrN vrA vrE vrC vrF vtN vtK vhN vhW vhA vsQ vsU) H := hP.sub [0, 1, 2, 3, 4, 5, 6, 7, 8, 9, 10, 11, 12, 13] rfl
            replace hD : va_D A (wdX cI cJ cZ aX aY aS aR aE aC aF aT aK aH aW aA aQ aU vxL_13 vxY_14 vsB vrN vrA vrE vrC vrF vtN vtK vhN vhW vhA vsQ vsU) := hD.sub [0, 1, 2, 3, 4, 5, 6, 7, 8, 9, 10, 11, 12, 13] (by decide) rfl
            obtain ⟨x8_15, e_16⟩ : ∃ y : Int32, y = x8_b18 + (1 : Int32) := ⟨_, rfl⟩
            replace hw := hw x8_15 e_16
            refine lv_iinc (v := x8_15) (lv' := [(8, .int x8_15), (5, .int r_11), (4, .int x5_b18), (6, .long x6_9), (9, .int r_6), (0, .ref aX)]) hx hb dX4_layWay_90 hl (k := 5) rfl (by rw [e_16]; rfl) (by decide) rfl (fun ls hl => ?_)
            refine lv_goto (tgt := 18) hx hb dX4_layWay_93 (by decide) ?_
            replace hl : lv_has ls 10 [(0, .ref aX), (4, .int x5_b18), (5, .int r_11), (6, .long x6_9), (8, .int x8_15)] := lv_sub hl [5, 2, 1, 3, 0] rfl
            exact ih18 vxL_13 vxY_14 x5_b18 r_11 x6_9 x8_15 _ _ _ hw hP hD hS hl
          · replace hw := hw.2 c_7
            exact hret 54 (vxL_b18, vxY_b18) _ _ _ dX4_layWay_54 hw hP hD hS
  unfold w_X4_layWay at hw
  refine lv_iconst (v := (-1 : Int32)) hx hb dX4_layWay_0 (by decide) ?_
  refine lv_istore (lv' := [(4, .int (-1 : Int32)), (0, .ref aX), (1, .int x1), (2, .long x2)]) hx hb dX4_layWay_1 hl (by decide) rfl (fun ls hl => ?_)
  refine lv_iload_n hx hb dX4_layWay_3 rfl (lv_at hl 2 rfl) ?_
  refine lv_istore (lv' := [(5, .int x1), (4, .int (-1 : Int32)), (0, .ref aX), (1, .int x1), (2, .long x2)]) hx hb dX4_layWay_4 hl (by decide) rfl (fun ls hl => ?_)
  refine lv_lload_n hx hb dX4_layWay_6 rfl (lv_at hl 4 rfl) ?_
  refine lv_lstore (lv' := [(6, .long x2), (5, .int x1), (4, .int (-1 : Int32)), (0, .ref aX), (1, .int x1), (2, .long x2)]) hx hb dX4_layWay_7 hl (by decide) rfl (fun ls hl => ?_)
  refine lv_aload_n hx hb dX4_layWay_9 rfl (lv_at hl 3 rfl) ?_
  refine lv_iload hx hb dX4_layWay_10 (lv_at hl 1 rfl) ?_
  refine kc_Vv (As := [.int x1]) (rest := []) (wc := wdX cI cJ cZ aX aY aS aR aE aC aF aT aK aH aW aA aQ aU vxL vxY vsB vrN vrA vrE vrC vrF vtN vtK vhN vhW vhA vsQ vsU) (wr := []) ⟨hx, hb, hml, hown, hts⟩ (cwV 1 hts gX4_layWay_X4_append rfl rfl rfl (by decide +kernel) ⟨Nat.le_of_ble_eq_true rfl, Nat.le_of_ble_eq_true rfl⟩) hK hN hA hP hD hS [0, 1, 2, 3, 4, 5, 6, 7, 8, 9, 10, 11, 12, 13] [] rfl rfl (by decide) (by decide) (by decide) 0 rfl rfl (k_X4_append l G cI cJ cZ aX aY aS aR aE aC aF aT aK aH aW aA aQ aU _ N vxL vxY vsB vrN vrA vrE vrC vrF vtN vtK vhN vhW vhA vsQ vsU x1 _ hw) rfl hl.1 rfl (Nat.le_of_ble_eq_true rfl) dX4_layWay_12 ⟨Nat.le_of_ble_eq_true rfl, Nat.le_of_ble_eq_true rfl⟩ (fun u_ H locs hw hP hD hS => ?_)
  obtain ⟨vxL_2, vxY_3⟩ := u_
  replace hP : va_P G vwCl (wdX cI cJ cZ aX aY aS aR aE aC aF aT aK aH aW aA aQ aU vxL_2 vxY_3 vsB vrN vrA vrE vrC vrF vtN vtK vhN vhW vhA vsQ vsU) H := hP.sub [0, 1, 2, 3, 4, 5, 6, 7, 8, 9, 10, 11, 12, 13] rfl
  replace hD : va_D A (wdX cI cJ cZ aX aY aS aR aE aC aF aT aK aH aW aA aQ aU vxL_2 vxY_3 vsB vrN vrA vrE vrC vrF vtN vtK vhN vhW vhA vsQ vsU) := hD.sub [0, 1, 2, 3, 4, 5, 6, 7, 8, 9, 10, 11, 12, 13] (by decide) rfl
  refine lv_iconst (v := (0 : Int32)) hx hb dX4_layWay_15 (by decide) ?_
  refine lv_istore (lv' := [(8, .int (0 : Int32)), (6, .long x2), (5, .int x1), (4, .int (-1 : Int32)), (0, .ref aX), (1, .int x1), (2, .long x2)]) hx hb dX4_layWay_16 hl (by decide) rfl (fun ls hl => ?_)
  replace hl : lv_has ls 10 [(0, .ref aX), (4, .int (-1 : Int32)), (5, .int x1), (6, .long x2), (8, .int (0 : Int32))] := lv_sub hl [4, 3, 2, 1, 0] rfl
  exact b18 N vxL_2 vxY_3 (-1 : Int32) x1 x2 (0 : Int32) _ _ _ hw hP hD hS hl
def w_X4_route (N : Nat) (vxL : Int32) (vxY : Nat → Int32) (vsB : Int32) (vrN : Int32) (vrA : Int32) (vrE : Nat → Int32) (vrC : Nat → Int32) (vrF : Nat → Int32) (vtN : Int32) (vtK : Nat → Int32) (vhN : Int32) (vhW : Nat → Int64) (vhA : Nat → Int32) (vsQ : Nat → Int32) (vsU : Nat → Int32) (x1 : Int32) (x2 : Int32) (post : Int64 → Int32 → (Nat → Int32) → Int32 → Int32 → (Nat → Int64) → (Nat → Int32) → (Nat → Int32) → (Nat → Int32) → Prop) : Prop :=
  w_X1_hasNode N vrN x1 (fun r_1 => ((r_1 = (0 : Int32) → post (-14 : Int64) (0 : Int32) vxY vsB vhN vhW vhA vsQ vsU) ∧ (¬ (r_1 = (0 : Int32)) → w_X1_hasNode N vrN x2 (fun r_3 => ((¬ r_3 = (0 : Int32) → ((¬ x1 = x2 → w_X2_begin N vsB vrN vrA vrE vrC vrF vtN vtK vhN vhW vhA vsQ vsU x2 (1 : Int32) (fun vsB_7 vhN_8 vhW_9 vhA_10 vsQ_11 vsU_12 => w_X2_weightOfFirstArrival N vsB_7 vrE vrC vrF vtN vtK vhN_8 vhW_9 vhA_10 vsQ_11 vsU_12 x1 (fun r_13 vhN_14 vhW_15 vhA_16 vsQ_17 vsU_18 => ((¬ (lg_cmp r_13 (0 : Int64)) = (0 : Int32) → w_X4_layWay N (0 : Int32) vxY vsB_7 vrN vrE vrC vrF vtN vtK vhW_15 x1 r_13 (fun vxL_21 vxY_22 => post (r_13 / (4096 : Int64)) vxL_21 vxY_22 vsB_7 vhN_14 vhW_15 vhA_16 vsQ_17 vsU_18)) ∧ ((lg_cmp r_13 (0 : Int64)) = (0 : Int32) → post (-3 : Int64) (0 : Int32) vxY vsB_7 vhN_14 vhW_15 vhA_16 vsQ_17 vsU_18))))) ∧ (x1 = x2 → w_X4_append N (0 : Int32) vxY x1 (fun vxL_24 vxY_25 => post (0 : Int64) vxL_24 vxY_25 vsB vhN vhW vhA vsQ vsU)))) ∧ (r_3 = (0 : Int32) → post (-14 : Int64) (0 : Int32) vxY vsB vhN vhW vhA vsQ vsU))))))
abbrev rm_X4_route : Room := { frames := 5, cells := 0, slots := 0, locals := 130 }
set_option maxHeartbeats 4000000 in
set_option maxRecDepth 100000 in
theorem k_X4_route (l : Launch) (G : va_G) (cI cJ cZ : ClassId) (aX aY aS aR aE aC aF aT aK aH aW aA aQ aU : Nat) (sz N : Nat) (vxL : Int32) (vxY : Nat → Int32) (vsB : Int32) (vrN : Int32) (vrA : Int32) (vrE : Nat → Int32) (vrC : Nat → Int32) (vrF : Nat → Int32) (vtN : Int32) (vtK : Nat → Int32) (vhN : Int32) (vhW : Nat → Int64) (vhA : Nat → Int32) (vsQ : Nat → Int32) (vsU : Nat → Int32) (x1 : Int32) (x2 : Int32) (post : Int64 → Int32 → (Nat → Int32) → Int32 → Int32 → (Nat → Int64) → (Nat → Int32) → (Nat → Int32) → (Nat → Int32) → Prop) (hw : w_X4_route N vxL vxY vsB vrN vrA vrE vrC vrF vtN vtK vhN vhW vhA vsQ vsU x1 x2 post) : Met l yX4_route wsX4_route rm_X4_route (kPc G (tyL cI cJ cZ) [.ref aX, .int x1, .int x2] sz (wdX cI cJ cZ aX aY aS aR aE aC aF aT aK aH aW aA aQ aU vxL vxY vsB vrN vrA vrE vrC vrF vtN vtK vhN vhW vhA vsQ vsU)) (va_Ql (fun (r : Int64) (u : Int32 × (Nat → Int32) × Int32 × Int32 × (Nat → Int64) × (Nat → Int32) × (Nat → Int32) × (Nat → Int32)) => post r u.1 u.2.1 u.2.2.1 u.2.2.2.1 u.2.2.2.2.1 u.2.2.2.2.2.1 u.2.2.2.2.2.2.1 u.2.2.2.2.2.2.2) (kB G (tyL cI cJ cZ) (va_A (wdX cI cJ cZ aX aY aS aR aE aC aF aT aK aH aW aA aQ aU vxL vxY vsB vrN vrA vrE vrC vrF vtN vtK vhN vhW vhA vsQ vsU) sz) (fun (u : Int32 × (Nat → Int32) × Int32 × Int32 × (Nat → Int64) × (Nat → Int32) × (Nat → Int32) × (Nat → Int32)) => wdX cI cJ cZ aX aY aS aR aE aC aF aT aK aH aW aA aQ aU u.1 u.2.1 u.2.2.1 vrN vrA vrE vrC vrF vtN vtK u.2.2.2.1 u.2.2.2.2.1 u.2.2.2.2.2.1 u.2.2.2.2.2.2.1 u.2.2.2.2.2.2.2)) (va_A (wdX cI cJ cZ aX aY aS aR aE aC aF aT aK aH aW aA aQ aU vxL vxY vsB vrN vrA vrE vrC vrF vtN vtK vhN vhW vhA vsQ vsU) sz)) 0 0 (va_A (wdX cI cJ cZ aX aY aS aR aE aC aF aT aK aH aW aA aQ aU vxL vxY vsB vrN vrA vrE vrC vrF vtN vtK vhN vhW vhA vsQ vsU) sz) := by
  refine km_l (cc := cX4_route) (maxL := 5) (by decide) rfl (Nat.le_of_ble_eq_true rfl) ?_
  intro p e s m below meth c A Q ls hx hb hml hts hown hnm hK hN hA hP hD hS hl hret
  replace hown : s.vm.findClass RX4 = some m.cls := hown
  replace hl : lv_has ls 5 [(0, .ref aX), (1, .int x1), (2, .int x2)] := hl
  unfold w_X4_route at hw
  refine lv_aload_n hx hb dX4_route_0 rfl (lv_at hl 0 rfl) ?_
  refine lv_iconst (v := (0 : Int32)) hx hb dX4_route_1 (by decide) ?_
  refine va_put (D := G) (ci := 4) (v := .int (0 : Int32)) (ty := .int) (C := RX4) (T := TX4) (N := 5) hx hb hts (fun _ h => List.mem_cons_of_mem _ (List.mem_append_left _ (List.mem_append_left _ (List.mem_append_left _ (List.mem_append_left _ (List.mem_append_right _ h)))))) tyX4 tyX4_ok nmX4 hown hK hP hD hS 0 rfl rfl 4 (by decide) (hts _ (List.mem_of_getElem? (i := 1) rfl)) (fun _ h9 => h9) rfl (by decide +kernel) rfl rfl (Nat.le_of_ble_eq_true rfl) dX4_route_2 (fun H locs hP hD hS => ?_)
  replace hP : va_P G vwCl (wdX cI cJ cZ aX aY aS aR aE aC aF aT aK aH aW aA aQ aU (0 : Int32) vxY vsB vrN vrA vrE vrC vrF vtN vtK vhN vhW vhA vsQ vsU) H := hP
  replace hD : va_D A (wdX cI cJ cZ aX aY aS aR aE aC aF aT aK aH aW aA aQ aU (0 : Int32) vxY vsB vrN vrA vrE vrC vrF vtN vtK vhN vhW vhA vsQ vsU) := hD
  refine lv_aload_n hx hb dX4_route_5 rfl (lv_at hl 0 rfl) ?_
  refine va_get (D := G) (ci := 4) (v := .ref aR) (C := RX4) (T := TX4) (N := 5) hx hb hts (fun _ h => List.mem_cons_of_mem _ (List.mem_append_left _ (List.mem_append_left _ (List.mem_append_left _ (List.mem_append_left _ (List.mem_append_right _ h)))))) hown hK hP 0 rfl rfl 0 (by decide) (hts _ (List.mem_of_getElem? (i := 2) rfl)) (fun _ h9 => h9) rfl dX4_route_6 ?_
  refine lv_iload_n hx hb dX4_route_9 rfl (lv_at hl 1 rfl) ?_
  refine kc_Vi (As := [.int x1]) (rest := []) (wc := wdR cI cJ cZ aR aE aC aF vrN vrA vrE vrC vrF) (wr := [(aX, .inr (4, [.ref aR, .ref aT, .ref aS, .ref aY, .int (0 : Int32)])), (aY, .inl (cI, 4001, .inl vxY)), (aS, .inr (2, [.ref aR, .ref aT, .ref aW, .ref aH, .ref aQ, .ref aU, .int vsB])), (aT, .inr (3, [.int vtN, .ref aK])), (aK, .inl (cI, 200, .inl vtK)), (aH, .inr (0, [.ref aW, .ref aA, .int vhN])), (aW, .inl (cJ, 4000, .inr (.inl vhW))), (aA, .inl (cI, 4000, .inl vhA)), (aQ, .inl (cI, 4000, .inl vsQ)), (aU, .inl (cI, 300, .inl vsU))]) ⟨hx, hb, hml, hown, hts⟩ (cwV 1 hts gX4_route_X1_hasNode rfl rfl rfl (by decide +kernel) ⟨Nat.le_of_ble_eq_true rfl, Nat.le_of_ble_eq_true rfl⟩) hK hN hA hP hD hS [3, 4, 5, 6] [0, 1, 2, 7, 8, 9, 10, 11, 12, 13] rfl rfl (by decide) (by decide) (by decide) 0 rfl rfl (k_X1_hasNode l G cI cJ cZ aR aE aC aF _ N vrN vrA vrE vrC vrF x1 _ hw) rfl hl.1 rfl (Nat.le_of_ble_eq_true rfl) dX4_route_10 ⟨Nat.le_of_ble_eq_true rfl, Nat.le_of_ble_eq_true rfl⟩ (fun r_1 u_ H locs hw hP hD hS => ?_)
  replace hP : va_P G vwCl (wdX cI cJ cZ aX aY aS aR aE aC aF aT aK aH aW aA aQ aU (0 : Int32) vxY vsB vrN vrA vrE vrC vrF vtN vtK vhN vhW vhA vsQ vsU) H := hP.sub [0, 1, 2, 10, 11, 12, 13, 3, 4, 5, 6, 7, 8, 9] rfl
  replace hD : va_D A (wdX cI cJ cZ aX aY aS aR aE aC aF aT aK aH aW aA aQ aU (0 : Int32) vxY vsB vrN vrA vrE vrC vrF vtN vtK vhN vhW vhA vsQ vsU) := hD.sub [0, 1, 2, 10, 11, 12, 13, 3, 4, 5, 6, 7, 8, 9] (by decide) rfl
  refine lv_if_eq (tgt := 27) hx hb dX4_route_13 (by decide) (fun c_2 => ?_) (fun c_2 => ?_)
  · replace hw := hw.1 c_2
    refine lv_ldc2 (v := (-14 : Int64)) hx hb hown (hts _ (List.mem_of_getElem? (i := 3) rfl)) dX4_route_27 ?_
    exact hret 30 (-14 : Int64) ((0 : Int32), vxY, vsB, vhN, vhW, vhA, vsQ, vsU) _ _ _ dX4_route_30 hw hP hD hS
  · replace hw := hw.2 c_2
    refine lv_aload_n hx hb dX4_route_16 rfl (lv_at hl 0 rfl) ?_
    refine va_get (D := G) (ci := 4) (v := .ref aR) (C := RX4) (T := TX4) (N := 5) hx hb hts (fun _ h => List.mem_cons_of_mem _ (List.mem_append_left _ (List.mem_append_left _ (List.mem_append_left _ (List.mem_append_left _ (List.mem_append_right _ h)))))) hown hK hP 0 rfl rfl 0 (by decide) (hts _ (List.mem_of_getElem? (i := 2) rfl)) (fun _ h9 => h9) rfl dX4_route_17 ?_
    refine lv_iload_n hx hb dX4_route_20 rfl (lv_at hl 2 rfl) ?_
    refine kc_Vi (As := [.int x2]) (rest := []) (wc := wdR cI cJ cZ aR aE aC aF vrN vrA vrE vrC vrF) (wr := [(aX, .inr (4, [.ref aR, .ref aT, .ref aS, .ref aY, .int (0 : Int32)])), (aY, .inl (cI, 4001, .inl vxY)), (aS, .inr (2, [.ref aR, .ref aT, .ref aW, .ref aH, .ref aQ, .ref aU, .int vsB])), (aT, .inr (3, [.int vtN, .ref aK])), (aK, .inl (cI, 200, .inl vtK)), (aH, .inr (0, [.ref aW, .ref aA, .int vhN])), (aW, .inl (cJ, 4000, .inr (.inl vhW))), (aA, .inl (cI, 4000, .inl vhA)), (aQ, .inl (cI, 4000, .inl vsQ)), (aU, .inl (cI, 300, .inl vsU))]) ⟨hx, hb, hml, hown, hts⟩ (cwV 1 hts gX4_route_X1_hasNode rfl rfl rfl (by decide +kernel) ⟨Nat.le_of_ble_eq_true rfl, Nat.le_of_ble_eq_true rfl⟩) hK hN hA hP hD hS [3, 4, 5, 6] [0, 1, 2, 7, 8, 9, 10, 11, 12, 13] rfl rfl (by decide) (by decide) (by decide) 0 rfl rfl (k_X1_hasNode l G cI cJ cZ aR aE aC aF _ N vrN vrA vrE vrC vrF x2 _ hw) rfl hl.1 rfl (Nat.le_of_ble_eq_true rfl) dX4_route_21 ⟨Nat.le_of_ble_eq_true rfl, Nat.le_of_ble_eq_true rfl⟩ (fun r_3 u_ H locs hw hP hD hS => ?_)
    replace hP : va_P G vwCl (wdX cI cJ cZ aX aY aS aR aE aC aF aT aK aH aW aA aQ aU (0 : Int32) vxY vsB vrN vrA vrE vrC vrF vtN vtK vhN vhW vhA vsQ vsU) H := hP.sub [0, 1, 2, 10, 11, 12, 13, 3, 4, 5, 6, 7, 8, 9] rfl
    replace hD : va_D A (wdX cI cJ cZ aX aY aS aR aE aC aF aT aK aH aW aA aQ aU (0 : Int32) vxY vsB vrN vrA vrE vrC vrF vtN vtK vhN vhW vhA vsQ vsU) := hD.sub [0, 1, 2, 10, 11, 12, 13, 3, 4, 5, 6, 7, 8, 9] (by decide) rfl
    refine lv_if_ne (tgt := 31) hx hb dX4_route_24 (by decide) (fun c_4 => ?_) (fun c_4 => ?_)
    · replace hw := hw.1 c_4
      refine lv_iload_n hx hb dX4_route_31 rfl (lv_at hl 1 rfl) ?_
      refine lv_iload_n hx hb dX4_route_32 rfl (lv_at hl 2 rfl) ?_
      refine lv_icmp_ne (tgt := 43) hx hb dX4_route_33 (by decide) (fun c_5 => ?_) (fun c_5 => ?_)
      · replace hw := hw.1 c_5
        refine lv_aload_n hx hb dX4_route_43 rfl (lv_at hl 0 rfl) ?_
        refine va_get (D := G) (ci := 4) (v := .ref aS) (C := RX4) (T := TX4) (N := 5) hx hb hts (fun _ h => List.mem_cons_of_mem _ (List.mem_append_left _ (List.mem_append_left _ (List.mem_append_left _ (List.mem_append_left _ (List.mem_append_right _ h)))))) hown hK hP 0 rfl rfl 2 (by decide) (hts _ (List.mem_of_getElem? (i := 4) rfl)) (fun _ h9 => h9) rfl dX4_route_44 ?_
        refine lv_iload_n hx hb dX4_route_47 rfl (lv_at hl 2 rfl) ?_
        refine lv_iconst (v := (1 : Int32)) hx hb dX4_route_48 (by decide) ?_
        refine kc_Vv (As := [.int x2, .int (1 : Int32)]) (rest := []) (wc := wdS cI cJ cZ aS aR aE aC aF aT aK aH aW aA aQ aU vsB vrN vrA vrE vrC vrF vtN vtK vhN vhW vhA vsQ vsU) (wr := [(aX, .inr (4, [.ref aR, .ref aT, .ref aS, .ref aY, .int (0 : Int32)])), (aY, .inl (cI, 4001, .inl vxY))]) ⟨hx, hb, hml, hown, hts⟩ (cwV 2 hts gX4_route_X2_begin rfl rfl rfl (by decide +kernel) ⟨Nat.le_of_ble_eq_true rfl, Nat.le_of_ble_eq_true rfl⟩) hK hN hA hP hD hS [2, 3, 4, 5, 6, 7, 8, 9, 10, 11, 12, 13] [0, 1] rfl rfl (by decide) (by decide) (by decide) 0 rfl rfl (k_X2_begin l G cI cJ cZ aS aR aE aC aF aT aK aH aW aA aQ aU _ N vsB vrN vrA vrE vrC vrF vtN vtK vhN vhW vhA vsQ vsU x2 (1 : Int32) _ hw) rfl hl.1 rfl (Nat.le_of_ble_eq_true rfl) dX4_route_49 ⟨Nat.le_of_ble_eq_true rfl, Nat.le_of_ble_eq_true rfl⟩ (fun u_ H locs hw hP hD hS => ?_)
        obtain ⟨vsB_7, vhN_8, vhW_9, vhA_10, vsQ_11, vsU_12⟩ := u_
        replace hP : va_P G vwCl (wdX cI cJ cZ aX aY aS aR aE aC aF aT aK aH aW aA aQ aU (0 : Int32) vxY vsB_7 vrN vrA vrE vrC vrF vtN vtK vhN_8 vhW_9 vhA_10 vsQ_11 vsU_12) H := hP.sub [0, 1, 2, 3, 4, 5, 6, 7, 8, 9, 10, 11, 12, 13] rfl
        replace hD : va_D A (wdX cI cJ cZ aX aY aS aR aE aC aF aT aK aH aW aA aQ aU (0 : Int32) vxY vsB_7 vrN vrA vrE vrC vrF vtN vtK vhN_8 vhW_9 vhA_10 vsQ_11 vsU_12) := hD.sub [0, 1, 2, 3, 4, 5, 6, 7, 8, 9, 10, 11, 12, 13] (by decide) rfl
        refine lv_aload_n hx hb dX4_route_52 rfl (lv_at hl 0 rfl) ?_
        refine va_get (D := G) (ci := 4) (v := .ref aS) (C := RX4) (T := TX4) (N := 5) hx hb hts (fun _ h => List.mem_cons_of_mem _ (List.mem_append_left _ (List.mem_append_left _ (List.mem_append_left _ (List.mem_append_left _ (List.mem_append_right _ h)))))) hown hK hP 0 rfl rfl 2 (by decide) (hts _ (List.mem_of_getElem? (i := 4) rfl)) (fun _ h9 => h9) rfl dX4_route_53 ?_
        refine lv_iload_n hx hb dX4_route_56 rfl (lv_at hl 1 rfl) ?_
        refine kc_Vl (As := [.int x1]) (rest := []) (wc := wdS cI cJ cZ aS aR aE aC aF aT aK aH aW aA aQ aU vsB_7 vrN vrA vrE vrC vrF vtN vtK vhN_8 vhW_9 vhA_10 vsQ_11 vsU_12) (wr := [(aX, .inr (4, [.ref aR, .ref aT, .ref aS, .ref aY, .int (0 : Int32)])), (aY, .inl (cI, 4001, .inl vxY))]) ⟨hx, hb, hml, hown, hts⟩ (cwV 1 hts gX4_route_X2_weightOfFirstArrival rfl rfl rfl (by decide +kernel) ⟨Nat.le_of_ble_eq_true rfl, Nat.le_of_ble_eq_true rfl⟩) hK hN hA hP hD hS [2, 3, 4, 5, 6, 7, 8, 9, 10, 11, 12, 13] [0, 1] rfl rfl (by decide) (by decide) (by decide) 0 rfl rfl (k_X2_weightOfFirstArrival l G cI cJ cZ aS aR aE aC aF aT aK aH aW aA aQ aU _ N vsB_7 vrN vrA vrE vrC vrF vtN vtK vhN_8 vhW_9 vhA_10 vsQ_11 vsU_12 x1 _ hw) rfl hl.1 rfl (Nat.le_of_ble_eq_true rfl) dX4_route_57 ⟨Nat.le_of_ble_eq_true rfl, Nat.le_of_ble_eq_true rfl⟩ (fun r_13 u_ H locs hw hP hD hS => ?_)
        obtain ⟨vhN_14, vhW_15, vhA_16, vsQ_17, vsU_18⟩ := u_
        replace hP : va_P G vwCl (wdX cI cJ cZ aX aY aS aR aE aC aF aT aK aH aW aA aQ aU (0 : Int32) vxY vsB_7 vrN vrA vrE vrC vrF vtN vtK vhN_14 vhW_15 vhA_16 vsQ_17 vsU_18) H := hP.sub [0, 1, 2, 3, 4, 5, 6, 7, 8, 9, 10, 11, 12, 13] rfl
        replace hD : va_D A (wdX cI cJ cZ aX aY aS aR aE aC aF aT aK aH aW aA aQ aU (0 : Int32) vxY vsB_7 vrN vrA vrE vrC vrF vtN vtK vhN_14 vhW_15 vhA_16 vsQ_17 vsU_18) := hD.sub [0, 1, 2, 3, 4, 5, 6, 7, 8, 9, 10, 11, 12, 13] (by decide) rfl
        refine lv_lstore_n (lv' := [(3, .long r_13), (0, .ref aX), (1, .int x1), (2, .int x2)]) hx hb dX4_route_60 rfl hl (by decide) rfl (fun ls hl => ?_)
        refine lv_lload_n hx hb dX4_route_61 rfl (lv_at hl 0 rfl) ?_
        refine lv_lconst (v := (0 : Int64)) hx hb dX4_route_62 (by decide) ?_
        refine W.lcmp hx hb dX4_route_63 ?_
        refine lv_if_ne (tgt := 71) hx hb dX4_route_64 (by decide) (fun c_19 => ?_) (fun c_19 => ?_)
        · replace hw := hw.1 c_19
          refine lv_aload_n hx hb dX4_route_71 rfl (lv_at hl 1 rfl) ?_
          refine lv_iload_n hx hb dX4_route_72 rfl (lv_at hl 2 rfl) ?_
          refine lv_lload_n hx hb dX4_route_73 rfl (lv_at hl 0 rfl) ?_
          refine kc_Vv (As := [.int x1, .long r_13]) (rest := []) (wc := wdX cI cJ cZ aX aY aS aR aE aC aF aT aK aH aW aA aQ aU (0 : Int32) vxY vsB_7 vrN vrA vrE vrC vrF vtN vtK vhN_14 vhW_15 vhA_16 vsQ_17 vsU_18) (wr := []) ⟨hx, hb, hml, hown, hts⟩ (cwV 2 hts gX4_route_X4_layWay rfl rfl rfl (by decide +kernel) ⟨Nat.le_of_ble_eq_true rfl, Nat.le_of_ble_eq_true rfl⟩) hK hN hA hP hD hS [0, 1, 2, 3, 4, 5, 6, 7, 8, 9, 10, 11, 12, 13] [] rfl rfl (by decide) (by decide) (by decide) 0 rfl rfl (k_X4_layWay l G cI cJ cZ aX aY aS aR aE aC aF aT aK aH aW aA aQ aU _ N (0 : Int32) vxY vsB_7 vrN vrA vrE vrC vrF vtN vtK vhN_14 vhW_15 vhA_16 vsQ_17 vsU_18 x1 r_13 _ hw) rfl hl.1 rfl (Nat.le_of_ble_eq_true rfl) dX4_route_74 ⟨Nat.le_of_ble_eq_true rfl, Nat.le_of_ble_eq_true rfl⟩ (fun u_ H locs hw hP hD hS => ?_)
          obtain ⟨vxL_21, vxY_22⟩ := u_
          replace hP : va_P G vwCl (wdX cI cJ cZ aX aY aS aR aE aC aF aT aK aH aW aA aQ aU vxL_21 vxY_22 vsB_7 vrN vrA vrE vrC vrF vtN vtK vhN_14 vhW_15 vhA_16 vsQ_17 vsU_18) H := hP.sub [0, 1, 2, 3, 4, 5, 6, 7, 8, 9, 10, 11, 12, 13] rfl
          replace hD : va_D A (wdX cI cJ cZ aX aY aS aR aE aC aF aT aK aH aW aA aQ aU vxL_21 vxY_22 vsB_7 vrN vrA vrE vrC vrF vtN vtK vhN_14 vhW_15 vhA_16 vsQ_17 vsU_18) := hD.sub [0, 1, 2, 3, 4, 5, 6, 7, 8, 9, 10, 11, 12, 13] (by decide) rfl
          refine lv_lload_n hx hb dX4_route_77 rfl (lv_at hl 0 rfl) ?_
          refine lv_ldc2 (v := (4096 : Int64)) hx hb hown (hts _ (List.mem_of_getElem? (i := 6) rfl)) dX4_route_78 ?_
          refine lv_ldiv hx hb dX4_route_81 (by decide) ?_
          exact hret 82 (r_13 / (4096 : Int64)) (vxL_21, vxY_22, vsB_7, vhN_14, vhW_15, vhA_16, vsQ_17, vsU_18) _ _ _ dX4_route_82 hw hP hD hS
        · replace hw := hw.2 c_19
          refine lv_ldc2 (v := (-3 : Int64)) hx hb hown (hts _ (List.mem_of_getElem? (i := 5) rfl)) dX4_route_67 ?_
          exact hret 70 (-3 : Int64) ((0 : Int32), vxY, vsB_7, vhN_14, vhW_15, vhA_16, vsQ_17, vsU_18) _ _ _ dX4_route_70 hw hP hD hS
      · replace hw := hw.2 c_5
        refine lv_aload_n hx hb dX4_route_36 rfl (lv_at hl 0 rfl) ?_
        refine lv_iload_n hx hb dX4_route_37 rfl (lv_at hl 1 rfl) ?_
        refine kc_Vv (As := [.int x1]) (rest := []) (wc := wdX cI cJ cZ aX aY aS aR aE aC aF aT aK aH aW aA aQ aU (0 : Int32) vxY vsB vrN vrA vrE vrC vrF vtN vtK vhN vhW vhA vsQ vsU) (wr := []) ⟨hx, hb, hml, hown, hts⟩ (cwV 1 hts gX4_route_X4_append rfl rfl rfl (by decide +kernel) ⟨Nat.le_of_ble_eq_true rfl, Nat.le_of_ble_eq_true rfl⟩) hK hN hA hP hD hS [0, 1, 2, 3, 4, 5, 6, 7, 8, 9, 10, 11, 12, 13] [] rfl rfl (by decide) (by decide) (by decide) 0 rfl rfl (k_X4_append l G cI cJ cZ aX aY aS aR aE aC aF aT aK aH aW aA aQ aU _ N (0 : Int32) vxY vsB vrN vrA vrE vrC vrF vtN vtK vhN vhW vhA vsQ vsU x1 _ hw) rfl hl.1 rfl (Nat.le_of_ble_eq_true rfl) dX4_route_38 ⟨Nat.le_of_ble_eq_true rfl, Nat.le_of_ble_eq_true rfl⟩ (fun u_ H locs hw hP hD hS => ?_)
        obtain ⟨vxL_24, vxY_25⟩ := u_
        replace hP : va_P G vwCl (wdX cI cJ cZ aX aY aS aR aE aC aF aT aK aH aW aA aQ aU vxL_24 vxY_25 vsB vrN vrA vrE vrC vrF vtN vtK vhN vhW vhA vsQ vsU) H := hP.sub [0, 1, 2, 3, 4, 5, 6, 7, 8, 9, 10, 11, 12, 13] rfl
        replace hD : va_D A (wdX cI cJ cZ aX aY aS aR aE aC aF aT aK aH aW aA aQ aU vxL_24 vxY_25 vsB vrN vrA vrE vrC vrF vtN vtK vhN vhW vhA vsQ vsU) := hD.sub [0, 1, 2, 3, 4, 5, 6, 7, 8, 9, 10, 11, 12, 13] (by decide) rfl
        refine lv_lconst (v := (0 : Int64)) hx hb dX4_route_41 (by decide) ?_
        exact hret 42 (0 : Int64) (vxL_24, vxY_25, vsB, vhN, vhW, vhA, vsQ, vsU) _ _ _ dX4_route_42 hw hP hD hS
    · replace hw := hw.2 c_4
      refine lv_ldc2 (v := (-14 : Int64)) hx hb hown (hts _ (List.mem_of_getElem? (i := 3) rfl)) dX4_route_27 ?_
      exact hret 30 (-14 : Int64) ((0 : Int32), vxY, vsB, vhN, vhW, vhA, vsQ, vsU) _ _ _ dX4_route_30 hw hP hD hS
def w_X4_within (N : Nat) (vsB : Int32) (vrN : Int32) (vrA : Int32) (vrE : Nat → Int32) (vrC : Nat → Int32) (vrF : Nat → Int32) (vtN : Int32) (vtK : Nat → Int32) (vhN : Int32) (vhW : Nat → Int64) (vhA : Nat → Int32) (vsQ : Nat → Int32) (vsU : Nat → Int32) (x1 : Int32) (x2 : Int64) (post : Int32 → Int32 → Int32 → (Nat → Int64) → (Nat → Int32) → (Nat → Int32) → (Nat → Int32) → Prop) : Prop :=
  w_X1_hasNode N vrN x1 (fun r_1 => ((¬ r_1 = (0 : Int32) → (((0 : Int32) ≤ (lg_cmp x2 (0 : Int64)) → w_X2_begin N vsB vrN vrA vrE vrC vrF vtN vtK vhN vhW vhA vsQ vsU x1 (0 : Int32) (fun vsB_5 vhN_6 vhW_7 vhA_8 vsQ_9 vsU_10 => w_X2_countOtherNodes N vsB_5 vrE vrC vrF vtN vtK vhN_6 vhW_7 vhA_8 vsQ_9 vsU_10 x2 (fun r_11 vhN_12 vhW_13 vhA_14 vsQ_15 vsU_16 => post ((1 : Int32) + r_11) vsB_5 vhN_12 vhW_13 vhA_14 vsQ_15 vsU_16))) ∧ (¬ ((0 : Int32) ≤ (lg_cmp x2 (0 : Int64))) → post (0 : Int32) vsB vhN vhW vhA vsQ vsU))) ∧ (r_1 = (0 : Int32) → post (-14 : Int32) vsB vhN vhW vhA vsQ vsU)))
abbrev rm_X4_within : Room := { frames := 5, cells := 0, slots := 0, locals := 127 }
set_option maxHeartbeats 4000000 in
set_option maxRecDepth 100000 in
theorem k_X4_within (l : Launch) (G : va_G) (cI cJ cZ : ClassId) (aX aY aS aR aE aC aF aT aK aH aW aA aQ aU : Nat) (sz N : Nat) (vxL : Int32) (vxY : Nat → Int32) (vsB : Int32) (vrN : Int32) (vrA : Int32) (vrE : Nat → Int32) (vrC : Nat → Int32) (vrF : Nat → Int32) (vtN : Int32) (vtK : Nat → Int32) (vhN : Int32) (vhW : Nat → Int64) (vhA : Nat → Int32) (vsQ : Nat → Int32) (vsU : Nat → Int32) (x1 : Int32) (x2 : Int64) (post : Int32 → Int32 → Int32 → (Nat → Int64) → (Nat → Int32) → (Nat → Int32) → (Nat → Int32) → Prop) (hw : w_X4_within N vsB vrN vrA vrE vrC vrF vtN vtK vhN vhW vhA vsQ vsU x1 x2 post) : Met l yX4_within wsX4_within rm_X4_within (kPc G (tyL cI cJ cZ) [.ref aX, .int x1, .long x2] sz (wdX cI cJ cZ aX aY aS aR aE aC aF aT aK aH aW aA aQ aU vxL vxY vsB vrN vrA vrE vrC vrF vtN vtK vhN vhW vhA vsQ vsU)) (va_Qi (fun (r : Int32) (u : Int32 × Int32 × (Nat → Int64) × (Nat → Int32) × (Nat → Int32) × (Nat → Int32)) => post r u.1 u.2.1 u.2.2.1 u.2.2.2.1 u.2.2.2.2.1 u.2.2.2.2.2) (kB G (tyL cI cJ cZ) (va_A (wdX cI cJ cZ aX aY aS aR aE aC aF aT aK aH aW aA aQ aU vxL vxY vsB vrN vrA vrE vrC vrF vtN vtK vhN vhW vhA vsQ vsU) sz) (fun (u : Int32 × Int32 × (Nat → Int64) × (Nat → Int32) × (Nat → Int32) × (Nat → Int32)) => wdX cI cJ cZ aX aY aS aR aE aC aF aT aK aH aW aA aQ aU vxL vxY u.1 vrN vrA vrE vrC vrF vtN vtK u.2.1 u.2.2.1 u.2.2.2.1 u.2.2.2.2.1 u.2.2.2.2.2)) (va_A (wdX cI cJ cZ aX aY aS aR aE aC aF aT aK aH aW aA aQ aU vxL vxY vsB vrN vrA vrE vrC vrF vtN vtK vhN vhW vhA vsQ vsU) sz)) 0 0 (va_A (wdX cI cJ cZ aX aY aS aR aE aC aF aT aK aH aW aA aQ aU vxL vxY vsB vrN vrA vrE vrC vrF vtN vtK vhN vhW vhA vsQ vsU) sz) := by
  refine km_i (cc := cX4_within) (maxL := 4) (by decide) rfl (Nat.le_of_ble_eq_true rfl) ?_
  intro p e s m below meth c A Q ls hx hb hml hts hown hnm hK hN hA hP hD hS hl hret
  replace hown : s.vm.findClass RX4 = some m.cls := hown
  replace hl : lv_has ls 4 [(0, .ref aX), (1, .int x1), (2, .long x2)] := hl
  unfold w_X4_within at hw
  refine lv_aload_n hx hb dX4_within_0 rfl (lv_at hl 0 rfl) ?_
  refine va_get (D := G) (ci := 4) (v := .ref aR) (C := RX4) (T := TX4) (N := 5) hx hb hts (fun _ h => List.mem_cons_of_mem _ (List.mem_append_left _ (List.mem_append_left _ (List.mem_append_left _ (List.mem_append_left _ (List.mem_append_right _ h)))))) hown hK hP 0 rfl rfl 0 (by decide) (hts _ (List.mem_of_getElem? (i := 1) rfl)) (fun _ h9 => h9) rfl dX4_within_1 ?_
  refine lv_iload_n hx hb dX4_within_4 rfl (lv_at hl 1 rfl) ?_
  refine kc_Vi (As := [.int x1]) (rest := []) (wc := wdR cI cJ cZ aR aE aC aF vrN vrA vrE vrC vrF) (wr := [(aX, .inr (4, [.ref aR, .ref aT, .ref aS, .ref aY, .int vxL])), (aY, .inl (cI, 4001, .inl vxY)), (aS, .inr (2, [.ref aR, .ref aT, .ref aW, .ref aH, .ref aQ, .ref aU, .int vsB])), (aT, .inr (3, [.int vtN, .ref aK])), (aK, .inl (cI, 200, .inl vtK)), (aH, .inr (0, [.ref aW, .ref aA, .int vhN])), (aW, .inl (cJ, 4000, .inr (.inl vhW))), (aA, .inl (cI, 4000, .inl vhA)), (aQ, .inl (cI, 4000, .inl vsQ)), (aU, .inl (cI, 300, .inl vsU))]) ⟨hx, hb, hml, hown, hts⟩ (cwV 1 hts gX4_within_X1_hasNode rfl rfl rfl (by decide +kernel) ⟨Nat.le_of_ble_eq_true rfl, Nat.le_of_ble_eq_true rfl⟩) hK hN hA hP hD hS [3, 4, 5, 6] [0, 1, 2, 7, 8, 9, 10, 11, 12, 13] rfl rfl (by decide) (by decide) (by decide) 0 rfl rfl (k_X1_hasNode l G cI cJ cZ aR aE aC aF _ N vrN vrA vrE vrC vrF x1 _ hw) rfl hl.1 rfl (Nat.le_of_ble_eq_true rfl) dX4_within_5 ⟨Nat.le_of_ble_eq_true rfl, Nat.le_of_ble_eq_true rfl⟩ (fun r_1 u_ H locs hw hP hD hS => ?_)
  replace hP : va_P G vwCl (wdX cI cJ cZ aX aY aS aR aE aC aF aT aK aH aW aA aQ aU vxL vxY vsB vrN vrA vrE vrC vrF vtN vtK vhN vhW vhA vsQ vsU) H := hP.sub [0, 1, 2, 10, 11, 12, 13, 3, 4, 5, 6, 7, 8, 9] rfl
  replace hD : va_D A (wdX cI cJ cZ aX aY aS aR aE aC aF aT aK aH aW aA aQ aU vxL vxY vsB vrN vrA vrE vrC vrF vtN vtK vhN vhW vhA vsQ vsU) := hD.sub [0, 1, 2, 10, 11, 12, 13, 3, 4, 5, 6, 7, 8, 9] (by decide) rfl
  refine lv_if_ne (tgt := 14) hx hb dX4_within_8 (by decide) (fun c_2 => ?_) (fun c_2 => ?_)
  · replace hw := hw.1 c_2
    refine lv_lload_n hx hb dX4_within_14 rfl (lv_at hl 2 rfl) ?_
    refine lv_lconst (v := (0 : Int64)) hx hb dX4_within_15 (by decide) ?_
    refine W.lcmp hx hb dX4_within_16 ?_
    refine lv_if_ge (tgt := 22) hx hb dX4_within_17 (by decide) (fun c_3 => ?_) (fun c_3 => ?_)
    · replace hw := hw.1 c_3
      refine lv_aload_n hx hb dX4_within_22 rfl (lv_at hl 0 rfl) ?_
      refine va_get (D := G) (ci := 4) (v := .ref aS) (C := RX4) (T := TX4) (N := 5) hx hb hts (fun _ h => List.mem_cons_of_mem _ (List.mem_append_left _ (List.mem_append_left _ (List.mem_append_left _ (List.mem_append_left _ (List.mem_append_right _ h)))))) hown hK hP 0 rfl rfl 2 (by decide) (hts _ (List.mem_of_getElem? (i := 2) rfl)) (fun _ h9 => h9) rfl dX4_within_23 ?_
      refine lv_iload_n hx hb dX4_within_26 rfl (lv_at hl 1 rfl) ?_
      refine lv_iconst (v := (0 : Int32)) hx hb dX4_within_27 (by decide) ?_
      refine kc_Vv (As := [.int x1, .int (0 : Int32)]) (rest := []) (wc := wdS cI cJ cZ aS aR aE aC aF aT aK aH aW aA aQ aU vsB vrN vrA vrE vrC vrF vtN vtK vhN vhW vhA vsQ vsU) (wr := [(aX, .inr (4, [.ref aR, .ref aT, .ref aS, .ref aY, .int vxL])), (aY, .inl (cI, 4001, .inl vxY))]) ⟨hx, hb, hml, hown, hts⟩ (cwV 2 hts gX4_within_X2_begin rfl rfl rfl (by decide +kernel) ⟨Nat.le_of_ble_eq_true rfl, Nat.le_of_ble_eq_true rfl⟩) hK hN hA hP hD hS [2, 3, 4, 5, 6, 7, 8, 9, 10, 11, 12, 13] [0, 1] rfl rfl (by decide) (by decide) (by decide) 0 rfl rfl (k_X2_begin l G cI cJ cZ aS aR aE aC aF aT aK aH aW aA aQ aU _ N vsB vrN vrA vrE vrC vrF vtN vtK vhN vhW vhA vsQ vsU x1 (0 : Int32) _ hw) rfl hl.1 rfl (Nat.le_of_ble_eq_true rfl) dX4_within_28 ⟨Nat.le_of_ble_eq_true rfl, Nat.le_of_ble_eq_true rfl⟩ (fun u_ H locs hw hP hD hS => ?_)
      obtain ⟨vsB_5, vhN_6, vhW_7, vhA_8, vsQ_9, vsU_10⟩ := u_
      replace hP : va_P G vwCl (wdX cI cJ cZ aX aY aS aR aE aC aF aT aK aH aW aA aQ aU vxL vxY vsB_5 vrN vrA vrE vrC vrF vtN vtK vhN_6 vhW_7 vhA_8 vsQ_9 vsU_10) H := hP.sub [0, 1, 2, 3, 4, 5, 6, 7, 8, 9, 10, 11, 12, 13] rfl
      replace hD : va_D A (wdX cI cJ cZ aX aY aS aR aE aC aF aT aK aH aW aA aQ aU vxL vxY vsB_5 vrN vrA vrE vrC vrF vtN vtK vhN_6 vhW_7 vhA_8 vsQ_9 vsU_10) := hD.sub [0, 1, 2, 3, 4, 5, 6, 7, 8, 9, 10, 11, 12, 13] (by decide) rfl
      refine lv_iconst (v := (1 : Int32)) hx hb dX4_within_31 (by decide) ?_
      refine lv_aload_n hx hb dX4_within_32 rfl (lv_at hl 0 rfl) ?_
      refine va_get (D := G) (ci := 4) (v := .ref aS) (C := RX4) (T := TX4) (N := 5) hx hb hts (fun _ h => List.mem_cons_of_mem _ (List.mem_append_left _ (List.mem_append_left _ (List.mem_append_left _ (List.mem_append_left _ (List.mem_append_right _ h)))))) hown hK hP 0 rfl rfl 2 (by decide) (hts _ (List.mem_of_getElem? (i := 2) rfl)) (fun _ h9 => h9) rfl dX4_within_33 ?_
      refine lv_lload_n hx hb dX4_within_36 rfl (lv_at hl 2 rfl) ?_
      refine kc_Vi (As := [.long x2]) (rest := [.int (1 : Int32)]) (wc := wdS cI cJ cZ aS aR aE aC aF aT aK aH aW aA aQ aU vsB_5 vrN vrA vrE vrC vrF vtN vtK vhN_6 vhW_7 vhA_8 vsQ_9 vsU_10) (wr := [(aX, .inr (4, [.ref aR, .ref aT, .ref aS, .ref aY, .int vxL])), (aY, .inl (cI, 4001, .inl vxY))]) ⟨hx, hb, hml, hown, hts⟩ (cwV 1 hts gX4_within_X2_countOtherNodes rfl rfl rfl (by decide +kernel) ⟨Nat.le_of_ble_eq_true rfl, Nat.le_of_ble_eq_true rfl⟩) hK hN hA hP hD hS [2, 3, 4, 5, 6, 7, 8, 9, 10, 11, 12, 13] [0, 1] rfl rfl (by decide) (by decide) (by decide) 0 rfl rfl (k_X2_countOtherNodes l G cI cJ cZ aS aR aE aC aF aT aK aH aW aA aQ aU _ N vsB_5 vrN vrA vrE vrC vrF vtN vtK vhN_6 vhW_7 vhA_8 vsQ_9 vsU_10 x2 _ hw) rfl hl.1 rfl (Nat.le_of_ble_eq_true rfl) dX4_within_37 ⟨Nat.le_of_ble_eq_true rfl, Nat.le_of_ble_eq_true rfl⟩ (fun r_11 u_ H locs hw hP hD hS => ?_)
      obtain ⟨vhN_12, vhW_13, vhA_14, vsQ_15, vsU_16⟩ := u_
      replace hP : va_P G vwCl (wdX cI cJ cZ aX aY aS aR aE aC aF aT aK aH aW aA aQ aU vxL vxY vsB_5 vrN vrA vrE vrC vrF vtN vtK vhN_12 vhW_13 vhA_14 vsQ_15 vsU_16) H := hP.sub [0, 1, 2, 3, 4, 5, 6, 7, 8, 9, 10, 11, 12, 13] rfl
      replace hD : va_D A (wdX cI cJ cZ aX aY aS aR aE aC aF aT aK aH aW aA aQ aU vxL vxY vsB_5 vrN vrA vrE vrC vrF vtN vtK vhN_12 vhW_13 vhA_14 vsQ_15 vsU_16) := hD.sub [0, 1, 2, 3, 4, 5, 6, 7, 8, 9, 10, 11, 12, 13] (by decide) rfl
      refine lv_iadd hx hb dX4_within_40 ?_
      exact hret 41 ((1 : Int32) + r_11) (vsB_5, vhN_12, vhW_13, vhA_14, vsQ_15, vsU_16) _ _ _ dX4_within_41 hw hP hD hS
    · replace hw := hw.2 c_3
      refine lv_iconst (v := (0 : Int32)) hx hb dX4_within_20 (by decide) ?_
      exact hret 21 (0 : Int32) (vsB, vhN, vhW, vhA, vsQ, vsU) _ _ _ dX4_within_21 hw hP hD hS
  · replace hw := hw.2 c_2
    refine lv_bipush (v := (-14 : Int32)) hx hb dX4_within_11 (by decide) ?_
    exact hret 13 (-14 : Int32) (vsB, vhN, vhW, vhA, vsQ, vsU) _ _ _ dX4_within_13 hw hP hD hS
