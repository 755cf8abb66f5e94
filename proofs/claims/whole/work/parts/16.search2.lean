def w_X2_weightOfFirstArrival_b2_B (N : Nat) (vsB : Int32) (vrE : Nat → Int32) (vrC : Nat → Int32) (vrF : Nat → Int32) (vtN : Int32) (vtK : Nat → Int32) (x1 : Int32) (post : Int64 → Int32 → (Nat → Int64) → (Nat → Int32) → (Nat → Int32) → (Nat → Int32) → Prop) (k2 : Int32 → (Nat → Int64) → (Nat → Int32) → (Nat → Int32) → (Nat → Int32) → Int32 → Prop) (vhN_b2 : Int32) (vhW_b2 : Nat → Int64) (vhA_b2 : Nat → Int32) (vsQ_b2 : Nat → Int32) (vsU_b2 : Nat → Int32) (x2_b2 : Int32) : Prop :=
  (((4000 : Int32) ≤ x2_b2 → post (0 : Int64) vhN_b2 vhW_b2 vhA_b2 vsQ_b2 vsU_b2) ∧ (¬ ((4000 : Int32) ≤ x2_b2) → w_X0_take N vhN_b2 vhW_b2 vhA_b2 (fun r_2 vhN_3 vhA_4 => ((¬ r_2 = (-1 : Int32) → w_X1_targetOf N vrE r_2 (fun r_6 => ((¬ r_6 = x1 → w_X1_targetOf N vrE r_2 (fun r_8 => w_X1_originOf N vrE r_2 (fun r_9 => vp_in r_2 4000 ∧ w_X2_spread N vsB vrE vrC vrF vtN vtK vhN_3 vhW_b2 vhA_4 vsQ_b2 vsU_b2 r_8 r_9 (vhW_b2 r_2.toNatClampNeg) (fun vhN_12 vhW_13 vhA_14 vsQ_15 vsU_16 => ∀ x2_17 : Int32, x2_17 = x2_b2 + (1 : Int32) → k2 vhN_12 vhW_13 vhA_14 vsQ_15 vsU_16 x2_17)))) ∧ (r_6 = x1 → vp_in r_2 4000 ∧ post (vhW_b2 r_2.toNatClampNeg) vhN_3 vhW_b2 vhA_4 vsQ_b2 vsU_b2)))) ∧ (r_2 = (-1 : Int32) → post (0 : Int64) vhN_3 vhW_b2 vhA_4 vsQ_b2 vsU_b2)))))
def w_X2_weightOfFirstArrival_b2 (N : Nat) (vsB : Int32) (vrE : Nat → Int32) (vrC : Nat → Int32) (vrF : Nat → Int32) (vtN : Int32) (vtK : Nat → Int32) (x1 : Int32) (post : Int64 → Int32 → (Nat → Int64) → (Nat → Int32) → (Nat → Int32) → (Nat → Int32) → Prop) : Nat → Int32 → (Nat → Int64) → (Nat → Int32) → (Nat → Int32) → (Nat → Int32) → Int32 → Prop
  | 0, _, _, _, _, _, _ => False
  | n + 1, vhN_b2, vhW_b2, vhA_b2, vsQ_b2, vsU_b2, x2_b2 => w_X2_weightOfFirstArrival_b2_B N vsB vrE vrC vrF vtN vtK x1 post (w_X2_weightOfFirstArrival_b2 N vsB vrE vrC vrF vtN vtK x1 post n) vhN_b2 vhW_b2 vhA_b2 vsQ_b2 vsU_b2 x2_b2
def w_X2_weightOfFirstArrival (N : Nat) (vsB : Int32) (vrE : Nat → Int32) (vrC : Nat → Int32) (vrF : Nat → Int32) (vtN : Int32) (vtK : Nat → Int32) (vhN : Int32) (vhW : Nat → Int64) (vhA : Nat → Int32) (vsQ : Nat → Int32) (vsU : Nat → Int32) (x1 : Int32) (post : Int64 → Int32 → (Nat → Int64) → (Nat → Int32) → (Nat → Int32) → (Nat → Int32) → Prop) : Prop :=
  w_X2_weightOfFirstArrival_b2 N vsB vrE vrC vrF vtN vtK x1 post N vhN vhW vhA vsQ vsU (0 : Int32)
abbrev rm_X2_weightOfFirstArrival : Room := { frames := 4, cells := 0, slots := 0, locals := 102 }
set_option maxHeartbeats 4000000 in
set_option maxRecDepth 100000 in
theorem k_X2_weightOfFirstArrival (l : Launch) (G : va_G) (cI cJ cZ : ClassId) (aS aR aE aC aF aT aK aH aW aA aQ aU : Nat) (sz N : Nat) (vsB : Int32) (vrN : Int32) (vrA : Int32) (vrE : Nat → Int32) (vrC : Nat → Int32) (vrF : Nat → Int32) (vtN : Int32) (vtK : Nat → Int32) (vhN : Int32) (vhW : Nat → Int64) (vhA : Nat → Int32) (vsQ : Nat → Int32) (vsU : Nat → Int32) (x1 : Int32) (post : Int64 → Int32 → (Nat → Int64) → (Nat → Int32) → (Nat → Int32) → (Nat → Int32) → Prop) (hw : w_X2_weightOfFirstArrival N vsB vrE vrC vrF vtN vtK vhN vhW vhA vsQ vsU x1 post) : Met l yX2_weightOfFirstArrival wsX2_weightOfFirstArrival rm_X2_weightOfFirstArrival (kPc G (tyL cI cJ cZ) [.ref aS, .int x1] sz (wdS cI cJ cZ aS aR aE aC aF aT aK aH aW aA aQ aU vsB vrN vrA vrE vrC vrF vtN vtK vhN vhW vhA vsQ vsU)) (va_Ql (fun (r : Int64) (u : Int32 × (Nat → Int64) × (Nat → Int32) × (Nat → Int32) × (Nat → Int32)) => post r u.1 u.2.1 u.2.2.1 u.2.2.2.1 u.2.2.2.2) (kB G (tyL cI cJ cZ) (va_A (wdS cI cJ cZ aS aR aE aC aF aT aK aH aW aA aQ aU vsB vrN vrA vrE vrC vrF vtN vtK vhN vhW vhA vsQ vsU) sz) (fun (u : Int32 × (Nat → Int64) × (Nat → Int32) × (Nat → Int32) × (Nat → Int32)) => wdS cI cJ cZ aS aR aE aC aF aT aK aH aW aA aQ aU vsB vrN vrA vrE vrC vrF vtN vtK u.1 u.2.1 u.2.2.1 u.2.2.2.1 u.2.2.2.2)) (va_A (wdS cI cJ cZ aS aR aE aC aF aT aK aH aW aA aQ aU vsB vrN vrA vrE vrC vrF vtN vtK vhN vhW vhA vsQ vsU) sz)) 0 0 (va_A (wdS cI cJ cZ aS aR aE aC aF aT aK aH aW aA aQ aU vsB vrN vrA vrE vrC vrF vtN vtK vhN vhW vhA vsQ vsU) sz) := by
  refine km_l (cc := cX2_weightOfFirstArrival) (maxL := 4) (by decide) rfl (Nat.le_of_ble_eq_true rfl) ?_
  intro p e s m below meth c A Q ls hx hb hml hts hown hnm hK hN hA hP hD hS hl hret
  replace hown : s.vm.findClass RX2 = some m.cls := hown
  replace hl : lv_has ls 4 [(0, .ref aS), (1, .int x1)] := hl
  have b2 : ∀ (n2 : Nat) (vhN_b2 : Int32) (vhW_b2 : Nat → Int64) (vhA_b2 : Nat → Int32) (vsQ_b2 : Nat → Int32) (vsU_b2 : Nat → Int32) (x2_b2 : Int32) (H : Heap) (locs : List Loc) (ls : Array Slot), w_X2_weightOfFirstArrival_b2 N vsB vrE vrC vrF vtN vtK x1 post n2 vhN_b2 vhW_b2 vhA_b2 vsQ_b2 vsU_b2 x2_b2 → va_P G vwCl (wdS cI cJ cZ aS aR aE aC aF aT aK aH aW aA aQ aU vsB vrN vrA vrE vrC vrF vtN vtK vhN_b2 vhW_b2 vhA_b2 vsQ_b2 vsU_b2) H → va_D A (wdS cI cJ cZ aS aR aE aC aF aT aK aH aW aA aQ aU vsB vrN vrA vrE vrC vrF vtN vtK vhN_b2 vhW_b2 vhA_b2 vsQ_b2 vsU_b2) → va_S A s.heap H locs → lv_has ls 4 [(0, .ref aS), (1, .int x1), (2, .int x2_b2)] → W p l e rm_X2_weightOfFirstArrival s m ([.ref aS, .int x1] : List Value).toArray below meth c H locs 0 0 Q (F0 m 2 ls []) := by
    intro n2
    induction n2 with
    | zero => intro vhN_b2 vhW_b2 vhA_b2 vsQ_b2 vsU_b2 x2_b2 H locs ls hw; exact hw.elim
    | succ n2 ih2 =>
      intro vhN_b2 vhW_b2 vhA_b2 vsQ_b2 vsU_b2 x2_b2 H locs ls hw hP hD hS hl
      replace hw : w_X2_weightOfFirstArrival_b2_B N vsB vrE vrC vrF vtN vtK x1 post (w_X2_weightOfFirstArrival_b2 N vsB vrE vrC vrF vtN vtK x1 post n2) vhN_b2 vhW_b2 vhA_b2 vsQ_b2 vsU_b2 x2_b2 := hw
      unfold w_X2_weightOfFirstArrival_b2_B at hw
      refine lv_iload_n hx hb dX2_weightOfFirstArrival_2 rfl (lv_at hl 2 rfl) ?_
      refine lv_sipush (v := (4000 : Int32)) hx hb dX2_weightOfFirstArrival_3 (by decide) ?_
      refine lv_icmp_ge (tgt := 75) hx hb dX2_weightOfFirstArrival_6 (by decide) (fun c_1 => ?_) (fun c_1 => ?_)
      · replace hw := hw.1 c_1
        refine lv_lconst (v := (0 : Int64)) hx hb dX2_weightOfFirstArrival_75 (by decide) ?_
        exact hret 76 (0 : Int64) (vhN_b2, vhW_b2, vhA_b2, vsQ_b2, vsU_b2) _ _ _ dX2_weightOfFirstArrival_76 hw hP hD hS
      · replace hw := hw.2 c_1
        refine lv_aload_n hx hb dX2_weightOfFirstArrival_9 rfl (lv_at hl 0 rfl) ?_
        refine va_get (D := G) (ci := 2) (v := .ref aH) (C := RX2) (T := TX2) (N := 7) hx hb hts (fun _ h => List.mem_cons_of_mem _ (List.mem_append_left _ (List.mem_append_left _ (List.mem_append_left _ (List.mem_append_right _ h))))) hown hK hP 0 rfl rfl 3 (by decide) (hts _ (List.mem_of_getElem? (i := 1) rfl)) (fun _ h9 => h9) rfl dX2_weightOfFirstArrival_10 ?_
        refine kc_Vi (As := []) (rest := []) (wc := wdH cI cJ cZ aH aW aA vhN_b2 vhW_b2 vhA_b2) (wr := [(aS, .inr (2, [.ref aR, .ref aT, .ref aW, .ref aH, .ref aQ, .ref aU, .int vsB])), (aR, .inr (1, [.int vrN, .int vrA, .ref aE, .ref aC, .ref aF])), (aE, .inl (cI, 4000, .inl vrE)), (aC, .inl (cI, 4000, .inl vrC)), (aF, .inl (cI, 301, .inl vrF)), (aT, .inr (3, [.int vtN, .ref aK])), (aK, .inl (cI, 200, .inl vtK)), (aQ, .inl (cI, 4000, .inl vsQ_b2)), (aU, .inl (cI, 300, .inl vsU_b2))]) ⟨hx, hb, hml, hown, hts⟩ (cwV 0 hts gX2_weightOfFirstArrival_X0_take rfl rfl rfl (by decide +kernel) ⟨Nat.le_of_ble_eq_true rfl, Nat.le_of_ble_eq_true rfl⟩) hK hN hA hP hD hS [7, 8, 9] [0, 1, 2, 3, 4, 5, 6, 10, 11] rfl rfl (by decide) (by decide) (by decide) 0 rfl rfl (k_X0_take l G cI cJ cZ aH aW aA _ N vhN_b2 vhW_b2 vhA_b2  _ hw) rfl hl.1 rfl (Nat.le_of_ble_eq_true rfl) dX2_weightOfFirstArrival_13 ⟨Nat.le_of_ble_eq_true rfl, Nat.le_of_ble_eq_true rfl⟩ (fun r_2 u_ H locs hw hP hD hS => ?_)
        obtain ⟨vhN_3, vhA_4⟩ := u_
        replace hP : va_P G vwCl (wdS cI cJ cZ aS aR aE aC aF aT aK aH aW aA aQ aU vsB vrN vrA vrE vrC vrF vtN vtK vhN_3 vhW_b2 vhA_4 vsQ_b2 vsU_b2) H := hP.sub [0, 1, 2, 3, 4, 5, 6, 9, 10, 11, 7, 8] rfl
        replace hD : va_D A (wdS cI cJ cZ aS aR aE aC aF aT aK aH aW aA aQ aU vsB vrN vrA vrE vrC vrF vtN vtK vhN_3 vhW_b2 vhA_4 vsQ_b2 vsU_b2) := hD.sub [0, 1, 2, 3, 4, 5, 6, 9, 10, 11, 7, 8] (by decide) rfl
        refine lv_istore_n (lv' := [(3, .int r_2), (0, .ref aS), (1, .int x1), (2, .int x2_b2)]) hx hb dX2_weightOfFirstArrival_16 rfl hl (by decide) rfl (fun ls hl => ?_)
        refine lv_iload_n hx hb dX2_weightOfFirstArrival_17 rfl (lv_at hl 0 rfl) ?_
        refine lv_iconst (v := (-1 : Int32)) hx hb dX2_weightOfFirstArrival_18 (by decide) ?_
        refine lv_icmp_ne (tgt := 24) hx hb dX2_weightOfFirstArrival_19 (by decide) (fun c_5 => ?_) (fun c_5 => ?_)
        · replace hw := hw.1 c_5
          refine lv_aload_n hx hb dX2_weightOfFirstArrival_24 rfl (lv_at hl 1 rfl) ?_
          refine va_get (D := G) (ci := 2) (v := .ref aR) (C := RX2) (T := TX2) (N := 7) hx hb hts (fun _ h => List.mem_cons_of_mem _ (List.mem_append_left _ (List.mem_append_left _ (List.mem_append_left _ (List.mem_append_right _ h))))) hown hK hP 0 rfl rfl 0 (by decide) (hts _ (List.mem_of_getElem? (i := 2) rfl)) (fun _ h9 => h9) rfl dX2_weightOfFirstArrival_25 ?_
          refine lv_iload_n hx hb dX2_weightOfFirstArrival_28 rfl (lv_at hl 0 rfl) ?_
          refine kc_Vi (As := [.int r_2]) (rest := []) (wc := wdR cI cJ cZ aR aE aC aF vrN vrA vrE vrC vrF) (wr := [(aS, .inr (2, [.ref aR, .ref aT, .ref aW, .ref aH, .ref aQ, .ref aU, .int vsB])), (aT, .inr (3, [.int vtN, .ref aK])), (aK, .inl (cI, 200, .inl vtK)), (aH, .inr (0, [.ref aW, .ref aA, .int vhN_3])), (aW, .inl (cJ, 4000, .inr (.inl vhW_b2))), (aA, .inl (cI, 4000, .inl vhA_4)), (aQ, .inl (cI, 4000, .inl vsQ_b2)), (aU, .inl (cI, 300, .inl vsU_b2))]) ⟨hx, hb, hml, hown, hts⟩ (cwV 1 hts gX2_weightOfFirstArrival_X1_targetOf rfl rfl rfl (by decide +kernel) ⟨Nat.le_of_ble_eq_true rfl, Nat.le_of_ble_eq_true rfl⟩) hK hN hA hP hD hS [1, 2, 3, 4] [0, 5, 6, 7, 8, 9, 10, 11] rfl rfl (by decide) (by decide) (by decide) 0 rfl rfl (k_X1_targetOf l G cI cJ cZ aR aE aC aF _ N vrN vrA vrE vrC vrF r_2 _ hw) rfl hl.1 rfl (Nat.le_of_ble_eq_true rfl) dX2_weightOfFirstArrival_29 ⟨Nat.le_of_ble_eq_true rfl, Nat.le_of_ble_eq_true rfl⟩ (fun r_6 u_ H locs hw hP hD hS => ?_)
          replace hP : va_P G vwCl (wdS cI cJ cZ aS aR aE aC aF aT aK aH aW aA aQ aU vsB vrN vrA vrE vrC vrF vtN vtK vhN_3 vhW_b2 vhA_4 vsQ_b2 vsU_b2) H := hP.sub [0, 8, 9, 10, 11, 1, 2, 3, 4, 5, 6, 7] rfl
          replace hD : va_D A (wdS cI cJ cZ aS aR aE aC aF aT aK aH aW aA aQ aU vsB vrN vrA vrE vrC vrF vtN vtK vhN_3 vhW_b2 vhA_4 vsQ_b2 vsU_b2) := hD.sub [0, 8, 9, 10, 11, 1, 2, 3, 4, 5, 6, 7] (by decide) rfl
          refine lv_iload_n hx hb dX2_weightOfFirstArrival_32 rfl (lv_at hl 2 rfl) ?_
          refine lv_icmp_ne (tgt := 43) hx hb dX2_weightOfFirstArrival_33 (by decide) (fun c_7 => ?_) (fun c_7 => ?_)
          · replace hw := hw.1 c_7
            refine lv_aload_n hx hb dX2_weightOfFirstArrival_43 rfl (lv_at hl 1 rfl) ?_
            refine lv_aload_n hx hb dX2_weightOfFirstArrival_44 rfl (lv_at hl 1 rfl) ?_
            refine va_get (D := G) (ci := 2) (v := .ref aR) (C := RX2) (T := TX2) (N := 7) hx hb hts (fun _ h => List.mem_cons_of_mem _ (List.mem_append_left _ (List.mem_append_left _ (List.mem_append_left _ (List.mem_append_right _ h))))) hown hK hP 0 rfl rfl 0 (by decide) (hts _ (List.mem_of_getElem? (i := 2) rfl)) (fun _ h9 => h9) rfl dX2_weightOfFirstArrival_45 ?_
            refine lv_iload_n hx hb dX2_weightOfFirstArrival_48 rfl (lv_at hl 0 rfl) ?_
            refine kc_Vi (As := [.int r_2]) (rest := [.ref aS]) (wc := wdR cI cJ cZ aR aE aC aF vrN vrA vrE vrC vrF) (wr := [(aS, .inr (2, [.ref aR, .ref aT, .ref aW, .ref aH, .ref aQ, .ref aU, .int vsB])), (aT, .inr (3, [.int vtN, .ref aK])), (aK, .inl (cI, 200, .inl vtK)), (aH, .inr (0, [.ref aW, .ref aA, .int vhN_3])), (aW, .inl (cJ, 4000, .inr (.inl vhW_b2))), (aA, .inl (cI, 4000, .inl vhA_4)), (aQ, .inl (cI, 4000, .inl vsQ_b2)), (aU, .inl (cI, 300, .inl vsU_b2))]) ⟨hx, hb, hml, hown, hts⟩ (cwV 1 hts gX2_weightOfFirstArrival_X1_targetOf rfl rfl rfl (by decide +kernel) ⟨Nat.le_of_ble_eq_true rfl, Nat.le_of_ble_eq_true rfl⟩) hK hN hA hP hD hS [1, 2, 3, 4] [0, 5, 6, 7, 8, 9, 10, 11] rfl rfl (by decide) (by decide) (by decide) 0 rfl rfl (k_X1_targetOf l G cI cJ cZ aR aE aC aF _ N vrN vrA vrE vrC vrF r_2 _ hw) rfl hl.1 rfl (Nat.le_of_ble_eq_true rfl) dX2_weightOfFirstArrival_49 ⟨Nat.le_of_ble_eq_true rfl, Nat.le_of_ble_eq_true rfl⟩ (fun r_8 u_ H locs hw hP hD hS => ?_)
            replace hP : va_P G vwCl (wdS cI cJ cZ aS aR aE aC aF aT aK aH aW aA aQ aU vsB vrN vrA vrE vrC vrF vtN vtK vhN_3 vhW_b2 vhA_4 vsQ_b2 vsU_b2) H := hP.sub [0, 8, 9, 10, 11, 1, 2, 3, 4, 5, 6, 7] rfl
            replace hD : va_D A (wdS cI cJ cZ aS aR aE aC aF aT aK aH aW aA aQ aU vsB vrN vrA vrE vrC vrF vtN vtK vhN_3 vhW_b2 vhA_4 vsQ_b2 vsU_b2) := hD.sub [0, 8, 9, 10, 11, 1, 2, 3, 4, 5, 6, 7] (by decide) rfl
            refine lv_aload_n hx hb dX2_weightOfFirstArrival_52 rfl (lv_at hl 1 rfl) ?_
            refine va_get (D := G) (ci := 2) (v := .ref aR) (C := RX2) (T := TX2) (N := 7) hx hb hts (fun _ h => List.mem_cons_of_mem _ (List.mem_append_left _ (List.mem_append_left _ (List.mem_append_left _ (List.mem_append_right _ h))))) hown hK hP 0 rfl rfl 0 (by decide) (hts _ (List.mem_of_getElem? (i := 2) rfl)) (fun _ h9 => h9) rfl dX2_weightOfFirstArrival_53 ?_
            refine lv_iload_n hx hb dX2_weightOfFirstArrival_56 rfl (lv_at hl 0 rfl) ?_
            refine kc_Vi (As := [.int r_2]) (rest := [.int r_8, .ref aS]) (wc := wdR cI cJ cZ aR aE aC aF vrN vrA vrE vrC vrF) (wr := [(aS, .inr (2, [.ref aR, .ref aT, .ref aW, .ref aH, .ref aQ, .ref aU, .int vsB])), (aT, .inr (3, [.int vtN, .ref aK])), (aK, .inl (cI, 200, .inl vtK)), (aH, .inr (0, [.ref aW, .ref aA, .int vhN_3])), (aW, .inl (cJ, 4000, .inr (.inl vhW_b2))), (aA, .inl (cI, 4000, .inl vhA_4)), (aQ, .inl (cI, 4000, .inl vsQ_b2)), (aU, .inl (cI, 300, .inl vsU_b2))]) ⟨hx, hb, hml, hown, hts⟩ (cwV 1 hts gX2_weightOfFirstArrival_X1_originOf rfl rfl rfl (by decide +kernel) ⟨Nat.le_of_ble_eq_true rfl, Nat.le_of_ble_eq_true rfl⟩) hK hN hA hP hD hS [1, 2, 3, 4] [0, 5, 6, 7, 8, 9, 10, 11] rfl rfl (by decide) (by decide) (by decide) 0 rfl rfl (k_X1_originOf l G cI cJ cZ aR aE aC aF _ N vrN vrA vrE vrC vrF r_2 _ hw) rfl hl.1 rfl (Nat.le_of_ble_eq_true rfl) dX2_weightOfFirstArrival_57 ⟨Nat.le_of_ble_eq_true rfl, Nat.le_of_ble_eq_true rfl⟩ (fun r_9 u_ H locs hw hP hD hS => ?_)
            replace hP : va_P G vwCl (wdS cI cJ cZ aS aR aE aC aF aT aK aH aW aA aQ aU vsB vrN vrA vrE vrC vrF vtN vtK vhN_3 vhW_b2 vhA_4 vsQ_b2 vsU_b2) H := hP.sub [0, 8, 9, 10, 11, 1, 2, 3, 4, 5, 6, 7] rfl
            replace hD : va_D A (wdS cI cJ cZ aS aR aE aC aF aT aK aH aW aA aQ aU vsB vrN vrA vrE vrC vrF vtN vtK vhN_3 vhW_b2 vhA_4 vsQ_b2 vsU_b2) := hD.sub [0, 8, 9, 10, 11, 1, 2, 3, 4, 5, 6, 7] (by decide) rfl
            refine lv_aload_n hx hb dX2_weightOfFirstArrival_60 rfl (lv_at hl 1 rfl) ?_
            refine va_get (D := G) (ci := 2) (v := .ref aW) (C := RX2) (T := TX2) (N := 7) hx hb hts (fun _ h => List.mem_cons_of_mem _ (List.mem_append_left _ (List.mem_append_left _ (List.mem_append_left _ (List.mem_append_right _ h))))) hown hK hP 0 rfl rfl 2 (by decide) (hts _ (List.mem_of_getElem? (i := 3) rfl)) (fun _ h9 => h9) rfl dX2_weightOfFirstArrival_61 ?_
            refine lv_iload_n hx hb dX2_weightOfFirstArrival_64 rfl (lv_at hl 0 rfl) ?_
            have h_10 := hw.1
            replace hw := hw.2
            refine va_lald hx hb hK hP 8 1 rfl rfl h_10 dX2_weightOfFirstArrival_65 ?_
            refine kc_Vv (As := [.int r_8, .int r_9, .long (vhW_b2 r_2.toNatClampNeg)]) (rest := []) (wc := wdS cI cJ cZ aS aR aE aC aF aT aK aH aW aA aQ aU vsB vrN vrA vrE vrC vrF vtN vtK vhN_3 vhW_b2 vhA_4 vsQ_b2 vsU_b2) (wr := []) ⟨hx, hb, hml, hown, hts⟩ (cwV 3 hts gX2_weightOfFirstArrival_X2_spread rfl rfl rfl (by decide +kernel) ⟨Nat.le_of_ble_eq_true rfl, Nat.le_of_ble_eq_true rfl⟩) hK hN hA hP hD hS [0, 1, 2, 3, 4, 5, 6, 7, 8, 9, 10, 11] [] rfl rfl (by decide) (by decide) (by decide) 0 rfl rfl (k_X2_spread l G cI cJ cZ aS aR aE aC aF aT aK aH aW aA aQ aU _ N vsB vrN vrA vrE vrC vrF vtN vtK vhN_3 vhW_b2 vhA_4 vsQ_b2 vsU_b2 r_8 r_9 (vhW_b2 r_2.toNatClampNeg) _ hw) rfl hl.1 rfl (Nat.le_of_ble_eq_true rfl) dX2_weightOfFirstArrival_66 ⟨Nat.le_of_ble_eq_true rfl, Nat.le_of_ble_eq_true rfl⟩ (fun u_ H locs hw hP hD hS => ?_)
            obtain ⟨vhN_12, vhW_13, vhA_14, vsQ_15, vsU_16⟩ := u_
            replace hP : va_P G vwCl (wdS cI cJ cZ aS aR aE aC aF aT aK aH aW aA aQ aU vsB vrN vrA vrE vrC vrF vtN vtK vhN_12 vhW_13 vhA_14 vsQ_15 vsU_16) H := hP.sub [0, 1, 2, 3, 4, 5, 6, 7, 8, 9, 10, 11] rfl
            replace hD : va_D A (wdS cI cJ cZ aS aR aE aC aF aT aK aH aW aA aQ aU vsB vrN vrA vrE vrC vrF vtN vtK vhN_12 vhW_13 vhA_14 vsQ_15 vsU_16) := hD.sub [0, 1, 2, 3, 4, 5, 6, 7, 8, 9, 10, 11] (by decide) rfl
            obtain ⟨x2_17, e_18⟩ : ∃ y : Int32, y = x2_b2 + (1 : Int32) := ⟨_, rfl⟩
            replace hw := hw x2_17 e_18
            refine lv_iinc (v := x2_17) (lv' := [(2, .int x2_17), (3, .int r_2), (0, .ref aS), (1, .int x1)]) hx hb dX2_weightOfFirstArrival_69 hl (k := 3) rfl (by rw [e_18]; rfl) (by decide) rfl (fun ls hl => ?_)
            refine lv_goto (tgt := 2) hx hb dX2_weightOfFirstArrival_72 (by decide) ?_
            replace hl : lv_has ls 4 [(0, .ref aS), (1, .int x1), (2, .int x2_17)] := lv_sub hl [2, 3, 0] rfl
            exact ih2 vhN_12 vhW_13 vhA_14 vsQ_15 vsU_16 x2_17 _ _ _ hw hP hD hS hl
          · replace hw := hw.2 c_7
            refine lv_aload_n hx hb dX2_weightOfFirstArrival_36 rfl (lv_at hl 1 rfl) ?_
            refine va_get (D := G) (ci := 2) (v := .ref aW) (C := RX2) (T := TX2) (N := 7) hx hb hts (fun _ h => List.mem_cons_of_mem _ (List.mem_append_left _ (List.mem_append_left _ (List.mem_append_left _ (List.mem_append_right _ h))))) hown hK hP 0 rfl rfl 2 (by decide) (hts _ (List.mem_of_getElem? (i := 3) rfl)) (fun _ h9 => h9) rfl dX2_weightOfFirstArrival_37 ?_
            refine lv_iload_n hx hb dX2_weightOfFirstArrival_40 rfl (lv_at hl 0 rfl) ?_
            have h_19 := hw.1
            replace hw := hw.2
            refine va_lald hx hb hK hP 8 1 rfl rfl h_19 dX2_weightOfFirstArrival_41 ?_
            exact hret 42 (vhW_b2 r_2.toNatClampNeg) (vhN_3, vhW_b2, vhA_4, vsQ_b2, vsU_b2) _ _ _ dX2_weightOfFirstArrival_42 hw hP hD hS
        · replace hw := hw.2 c_5
          refine lv_lconst (v := (0 : Int64)) hx hb dX2_weightOfFirstArrival_22 (by decide) ?_
          exact hret 23 (0 : Int64) (vhN_3, vhW_b2, vhA_4, vsQ_b2, vsU_b2) _ _ _ dX2_weightOfFirstArrival_23 hw hP hD hS
  unfold w_X2_weightOfFirstArrival at hw
  refine lv_iconst (v := (0 : Int32)) hx hb dX2_weightOfFirstArrival_0 (by decide) ?_
  refine lv_istore_n (lv' := [(2, .int (0 : Int32)), (0, .ref aS), (1, .int x1)]) hx hb dX2_weightOfFirstArrival_1 rfl hl (by decide) rfl (fun ls hl => ?_)
  replace hl : lv_has ls 4 [(0, .ref aS), (1, .int x1), (2, .int (0 : Int32))] := lv_sub hl [1, 2, 0] rfl
  exact b2 N vhN vhW vhA vsQ vsU (0 : Int32) _ _ _ hw hP hD hS hl
def w_X2_countOtherNodes_b67 (N : Nat) (vsB : Int32) (vrE : Nat → Int32) (vrC : Nat → Int32) (vrF : Nat → Int32) (vtN : Int32) (vtK : Nat → Int32) (post : Int32 → Int32 → (Nat → Int64) → (Nat → Int32) → (Nat → Int32) → (Nat → Int32) → Prop) (k5 : Int32 → (Nat → Int64) → (Nat → Int32) → (Nat → Int32) → (Nat → Int32) → Int32 → Int32 → Prop) (vhN_b67 : Int32) (vhW_b67 : Nat → Int64) (vhA_b67 : Nat → Int32) (vsQ_b67 : Nat → Int32) (vsU_b67 : Nat → Int32) (x3_b67 : Int32) (x4_b67 : Int32) (x5_b67 : Int32) : Prop :=
  w_X1_targetOf N vrE x5_b67 (fun r_11 => w_X1_originOf N vrE x5_b67 (fun r_12 => vp_in x5_b67 4000 ∧ w_X2_spread N vsB vrE vrC vrF vtN vtK vhN_b67 vhW_b67 vhA_b67 vsQ_b67 vsU_b67 r_11 r_12 (vhW_b67 x5_b67.toNatClampNeg) (fun vhN_15 vhW_16 vhA_17 vsQ_18 vsU_19 => ∀ x4_20 : Int32, x4_20 = x4_b67 + (1 : Int32) → k5 vhN_15 vhW_16 vhA_17 vsQ_18 vsU_19 x3_b67 x4_20)))
def w_X2_countOtherNodes_b5_B (N : Nat) (vsB : Int32) (vrE : Nat → Int32) (vrC : Nat → Int32) (vrF : Nat → Int32) (vtN : Int32) (vtK : Nat → Int32) (x1 : Int64) (post : Int32 → Int32 → (Nat → Int64) → (Nat → Int32) → (Nat → Int32) → (Nat → Int32) → Prop) (k5 : Int32 → (Nat → Int64) → (Nat → Int32) → (Nat → Int32) → (Nat → Int32) → Int32 → Int32 → Prop) (vhN_b5 : Int32) (vhW_b5 : Nat → Int64) (vhA_b5 : Nat → Int32) (vsQ_b5 : Nat → Int32) (vsU_b5 : Nat → Int32) (x3_b5 : Int32) (x4_b5 : Int32) : Prop :=
  (((4000 : Int32) ≤ x4_b5 → post x3_b5 vhN_b5 vhW_b5 vhA_b5 vsQ_b5 vsU_b5) ∧ (¬ ((4000 : Int32) ≤ x4_b5) → w_X0_take N vhN_b5 vhW_b5 vhA_b5 (fun r_2 vhN_3 vhA_4 => ((r_2 = (-1 : Int32) → post x3_b5 vhN_3 vhW_b5 vhA_4 vsQ_b5 vsU_b5) ∧ (¬ (r_2 = (-1 : Int32)) → vp_in r_2 4000 ∧ (((lg_cmp ((vhW_b5 r_2.toNatClampNeg) / (4096 : Int64)) x1) ≤ (0 : Int32) → w_X1_targetOf N vrE r_2 (fun r_8 => vp_in r_8 300 ∧ ((¬ (vsU_b5 r_8.toNatClampNeg) = (-1 : Int32) → w_X2_countOtherNodes_b67 N vsB vrE vrC vrF vtN vtK post k5 vhN_3 vhW_b5 vhA_4 vsQ_b5 vsU_b5 x3_b5 x4_b5 r_2) ∧ ((vsU_b5 r_8.toNatClampNeg) = (-1 : Int32) → ∀ x3_22 : Int32, x3_22 = x3_b5 + (1 : Int32) → w_X2_countOtherNodes_b67 N vsB vrE vrC vrF vtN vtK post k5 vhN_3 vhW_b5 vhA_4 vsQ_b5 vsU_b5 x3_22 x4_b5 r_2)))) ∧ (¬ ((lg_cmp ((vhW_b5 r_2.toNatClampNeg) / (4096 : Int64)) x1) ≤ (0 : Int32)) → post x3_b5 vhN_3 vhW_b5 vhA_4 vsQ_b5 vsU_b5)))))))
def w_X2_countOtherNodes_b5 (N : Nat) (vsB : Int32) (vrE : Nat → Int32) (vrC : Nat → Int32) (vrF : Nat → Int32) (vtN : Int32) (vtK : Nat → Int32) (x1 : Int64) (post : Int32 → Int32 → (Nat → Int64) → (Nat → Int32) → (Nat → Int32) → (Nat → Int32) → Prop) : Nat → Int32 → (Nat → Int64) → (Nat → Int32) → (Nat → Int32) → (Nat → Int32) → Int32 → Int32 → Prop
  | 0, _, _, _, _, _, _, _ => False
  | n + 1, vhN_b5, vhW_b5, vhA_b5, vsQ_b5, vsU_b5, x3_b5, x4_b5 => w_X2_countOtherNodes_b5_B N vsB vrE vrC vrF vtN vtK x1 post (w_X2_countOtherNodes_b5 N vsB vrE vrC vrF vtN vtK x1 post n) vhN_b5 vhW_b5 vhA_b5 vsQ_b5 vsU_b5 x3_b5 x4_b5
def w_X2_countOtherNodes (N : Nat) (vsB : Int32) (vrE : Nat → Int32) (vrC : Nat → Int32) (vrF : Nat → Int32) (vtN : Int32) (vtK : Nat → Int32) (vhN : Int32) (vhW : Nat → Int64) (vhA : Nat → Int32) (vsQ : Nat → Int32) (vsU : Nat → Int32) (x1 : Int64) (post : Int32 → Int32 → (Nat → Int64) → (Nat → Int32) → (Nat → Int32) → (Nat → Int32) → Prop) : Prop :=
  w_X2_countOtherNodes_b5 N vsB vrE vrC vrF vtN vtK x1 post N vhN vhW vhA vsQ vsU (0 : Int32) (0 : Int32)
abbrev rm_X2_countOtherNodes : Room := { frames := 4, cells := 0, slots := 0, locals := 102 }
set_option maxHeartbeats 4000000 in
set_option maxRecDepth 100000 in
theorem k_X2_countOtherNodes (l : Launch) (G : va_G) (cI cJ cZ : ClassId) (aS aR aE aC aF aT aK aH aW aA aQ aU : Nat) (sz N : Nat) (vsB : Int32) (vrN : Int32) (vrA : Int32) (vrE : Nat → Int32) (vrC : Nat → Int32) (vrF : Nat → Int32) (vtN : Int32) (vtK : Nat → Int32) (vhN : Int32) (vhW : Nat → Int64) (vhA : Nat → Int32) (vsQ : Nat → Int32) (vsU : Nat → Int32) (x1 : Int64) (post : Int32 → Int32 → (Nat → Int64) → (Nat → Int32) → (Nat → Int32) → (Nat → Int32) → Prop) (hw : w_X2_countOtherNodes N vsB vrE vrC vrF vtN vtK vhN vhW vhA vsQ vsU x1 post) : Met l yX2_countOtherNodes wsX2_countOtherNodes rm_X2_countOtherNodes (kPc G (tyL cI cJ cZ) [.ref aS, .long x1] sz (wdS cI cJ cZ aS aR aE aC aF aT aK aH aW aA aQ aU vsB vrN vrA vrE vrC vrF vtN vtK vhN vhW vhA vsQ vsU)) (va_Qi (fun (r : Int32) (u : Int32 × (Nat → Int64) × (Nat → Int32) × (Nat → Int32) × (Nat → Int32)) => post r u.1 u.2.1 u.2.2.1 u.2.2.2.1 u.2.2.2.2) (kB G (tyL cI cJ cZ) (va_A (wdS cI cJ cZ aS aR aE aC aF aT aK aH aW aA aQ aU vsB vrN vrA vrE vrC vrF vtN vtK vhN vhW vhA vsQ vsU) sz) (fun (u : Int32 × (Nat → Int64) × (Nat → Int32) × (Nat → Int32) × (Nat → Int32)) => wdS cI cJ cZ aS aR aE aC aF aT aK aH aW aA aQ aU vsB vrN vrA vrE vrC vrF vtN vtK u.1 u.2.1 u.2.2.1 u.2.2.2.1 u.2.2.2.2)) (va_A (wdS cI cJ cZ aS aR aE aC aF aT aK aH aW aA aQ aU vsB vrN vrA vrE vrC vrF vtN vtK vhN vhW vhA vsQ vsU) sz)) 0 0 (va_A (wdS cI cJ cZ aS aR aE aC aF aT aK aH aW aA aQ aU vsB vrN vrA vrE vrC vrF vtN vtK vhN vhW vhA vsQ vsU) sz) := by
  refine km_i (cc := cX2_countOtherNodes) (maxL := 6) (by decide) rfl (Nat.le_of_ble_eq_true rfl) ?_
  intro p e s m below meth c A Q ls hx hb hml hts hown hnm hK hN hA hP hD hS hl hret
  replace hown : s.vm.findClass RX2 = some m.cls := hown
  replace hl : lv_has ls 6 [(0, .ref aS), (1, .long x1)] := hl
  have b5 : ∀ (n5 : Nat) (vhN_b5 : Int32) (vhW_b5 : Nat → Int64) (vhA_b5 : Nat → Int32) (vsQ_b5 : Nat → Int32) (vsU_b5 : Nat → Int32) (x3_b5 : Int32) (x4_b5 : Int32) (H : Heap) (locs : List Loc) (ls : Array Slot), w_X2_countOtherNodes_b5 N vsB vrE vrC vrF vtN vtK x1 post n5 vhN_b5 vhW_b5 vhA_b5 vsQ_b5 vsU_b5 x3_b5 x4_b5 → va_P G vwCl (wdS cI cJ cZ aS aR aE aC aF aT aK aH aW aA aQ aU vsB vrN vrA vrE vrC vrF vtN vtK vhN_b5 vhW_b5 vhA_b5 vsQ_b5 vsU_b5) H → va_D A (wdS cI cJ cZ aS aR aE aC aF aT aK aH aW aA aQ aU vsB vrN vrA vrE vrC vrF vtN vtK vhN_b5 vhW_b5 vhA_b5 vsQ_b5 vsU_b5) → va_S A s.heap H locs → lv_has ls 6 [(0, .ref aS), (1, .long x1), (3, .int x3_b5), (4, .int x4_b5)] → W p l e rm_X2_countOtherNodes s m ([.ref aS, .long x1] : List Value).toArray below meth c H locs 0 0 Q (F0 m 5 ls []) := by
    intro n5
    induction n5 with
    | zero => intro vhN_b5 vhW_b5 vhA_b5 vsQ_b5 vsU_b5 x3_b5 x4_b5 H locs ls hw; exact hw.elim
    | succ n5 ih5 =>
      intro vhN_b5 vhW_b5 vhA_b5 vsQ_b5 vsU_b5 x3_b5 x4_b5 H locs ls hw hP hD hS hl
      replace hw : w_X2_countOtherNodes_b5_B N vsB vrE vrC vrF vtN vtK x1 post (w_X2_countOtherNodes_b5 N vsB vrE vrC vrF vtN vtK x1 post n5) vhN_b5 vhW_b5 vhA_b5 vsQ_b5 vsU_b5 x3_b5 x4_b5 := hw
      unfold w_X2_countOtherNodes_b5_B at hw
      have b67 : ∀ (vhN_b67 : Int32) (vhW_b67 : Nat → Int64) (vhA_b67 : Nat → Int32) (vsQ_b67 : Nat → Int32) (vsU_b67 : Nat → Int32) (x3_b67 : Int32) (x4_b67 : Int32) (x5_b67 : Int32) (H : Heap) (locs : List Loc) (ls : Array Slot), w_X2_countOtherNodes_b67 N vsB vrE vrC vrF vtN vtK post (w_X2_countOtherNodes_b5 N vsB vrE vrC vrF vtN vtK x1 post n5) vhN_b67 vhW_b67 vhA_b67 vsQ_b67 vsU_b67 x3_b67 x4_b67 x5_b67 → va_P G vwCl (wdS cI cJ cZ aS aR aE aC aF aT aK aH aW aA aQ aU vsB vrN vrA vrE vrC vrF vtN vtK vhN_b67 vhW_b67 vhA_b67 vsQ_b67 vsU_b67) H → va_D A (wdS cI cJ cZ aS aR aE aC aF aT aK aH aW aA aQ aU vsB vrN vrA vrE vrC vrF vtN vtK vhN_b67 vhW_b67 vhA_b67 vsQ_b67 vsU_b67) → va_S A s.heap H locs → lv_has ls 6 [(0, .ref aS), (1, .long x1), (3, .int x3_b67), (4, .int x4_b67), (5, .int x5_b67)] → W p l e rm_X2_countOtherNodes s m ([.ref aS, .long x1] : List Value).toArray below meth c H locs 0 0 Q (F0 m 67 ls []) := by
        intro vhN_b67 vhW_b67 vhA_b67 vsQ_b67 vsU_b67 x3_b67 x4_b67 x5_b67 H locs ls hw hP hD hS hl
        unfold w_X2_countOtherNodes_b67 at hw
        refine lv_aload_n hx hb dX2_countOtherNodes_67 rfl (lv_at hl 0 rfl) ?_
        refine lv_aload_n hx hb dX2_countOtherNodes_68 rfl (lv_at hl 0 rfl) ?_
        refine va_get (D := G) (ci := 2) (v := .ref aR) (C := RX2) (T := TX2) (N := 7) hx hb hts (fun _ h => List.mem_cons_of_mem _ (List.mem_append_left _ (List.mem_append_left _ (List.mem_append_left _ (List.mem_append_right _ h))))) hown hK hP 0 rfl rfl 0 (by decide) (hts _ (List.mem_of_getElem? (i := 5) rfl)) (fun _ h9 => h9) rfl dX2_countOtherNodes_69 ?_
        refine lv_iload hx hb dX2_countOtherNodes_72 (lv_at hl 4 rfl) ?_
        refine kc_Vi (As := [.int x5_b67]) (rest := [.ref aS]) (wc := wdR cI cJ cZ aR aE aC aF vrN vrA vrE vrC vrF) (wr := [(aS, .inr (2, [.ref aR, .ref aT, .ref aW, .ref aH, .ref aQ, .ref aU, .int vsB])), (aT, .inr (3, [.int vtN, .ref aK])), (aK, .inl (cI, 200, .inl vtK)), (aH, .inr (0, [.ref aW, .ref aA, .int vhN_b67])), (aW, .inl (cJ, 4000, .inr (.inl vhW_b67))), (aA, .inl (cI, 4000, .inl vhA_b67)), (aQ, .inl (cI, 4000, .inl vsQ_b67)), (aU, .inl (cI, 300, .inl vsU_b67))]) ⟨hx, hb, hml, hown, hts⟩ (cwV 1 hts gX2_countOtherNodes_X1_targetOf rfl rfl rfl (by decide +kernel) ⟨Nat.le_of_ble_eq_true rfl, Nat.le_of_ble_eq_true rfl⟩) hK hN hA hP hD hS [1, 2, 3, 4] [0, 5, 6, 7, 8, 9, 10, 11] rfl rfl (by decide) (by decide) (by decide) 0 rfl rfl (k_X1_targetOf l G cI cJ cZ aR aE aC aF _ N vrN vrA vrE vrC vrF x5_b67 _ hw) rfl hl.1 rfl (Nat.le_of_ble_eq_true rfl) dX2_countOtherNodes_74 ⟨Nat.le_of_ble_eq_true rfl, Nat.le_of_ble_eq_true rfl⟩ (fun r_11 u_ H locs hw hP hD hS => ?_)
        replace hP : va_P G vwCl (wdS cI cJ cZ aS aR aE aC aF aT aK aH aW aA aQ aU vsB vrN vrA vrE vrC vrF vtN vtK vhN_b67 vhW_b67 vhA_b67 vsQ_b67 vsU_b67) H := hP.sub [0, 8, 9, 10, 11, 1, 2, 3, 4, 5, 6, 7] rfl
        replace hD : va_D A (wdS cI cJ cZ aS aR aE aC aF aT aK aH aW aA aQ aU vsB vrN vrA vrE vrC vrF vtN vtK vhN_b67 vhW_b67 vhA_b67 vsQ_b67 vsU_b67) := hD.sub [0, 8, 9, 10, 11, 1, 2, 3, 4, 5, 6, 7] (by decide) rfl
        refine lv_aload_n hx hb dX2_countOtherNodes_77 rfl (lv_at hl 0 rfl) ?_
        refine va_get (D := G) (ci := 2) (v := .ref aR) (C := RX2) (T := TX2) (N := 7) hx hb hts (fun _ h => List.mem_cons_of_mem _ (List.mem_append_left _ (List.mem_append_left _ (List.mem_append_left _ (List.mem_append_right _ h))))) hown hK hP 0 rfl rfl 0 (by decide) (hts _ (List.mem_of_getElem? (i := 5) rfl)) (fun _ h9 => h9) rfl dX2_countOtherNodes_78 ?_
        refine lv_iload hx hb dX2_countOtherNodes_81 (lv_at hl 4 rfl) ?_
        refine kc_Vi (As := [.int x5_b67]) (rest := [.int r_11, .ref aS]) (wc := wdR cI cJ cZ aR aE aC aF vrN vrA vrE vrC vrF) (wr := [(aS, .inr (2, [.ref aR, .ref aT, .ref aW, .ref aH, .ref aQ, .ref aU, .int vsB])), (aT, .inr (3, [.int vtN, .ref aK])), (aK, .inl (cI, 200, .inl vtK)), (aH, .inr (0, [.ref aW, .ref aA, .int vhN_b67])), (aW, .inl (cJ, 4000, .inr (.inl vhW_b67))), (aA, .inl (cI, 4000, .inl vhA_b67)), (aQ, .inl (cI, 4000, .inl vsQ_b67)), (aU, .inl (cI, 300, .inl vsU_b67))]) ⟨hx, hb, hml, hown, hts⟩ (cwV 1 hts gX2_countOtherNodes_X1_originOf rfl rfl rfl (by decide +kernel) ⟨Nat.le_of_ble_eq_true rfl, Nat.le_of_ble_eq_true rfl⟩) hK hN hA hP hD hS [1, 2, 3, 4] [0, 5, 6, 7, 8, 9, 10, 11] rfl rfl (by decide) (by decide) (by decide) 0 rfl rfl (k_X1_originOf l G cI cJ cZ aR aE aC aF _ N vrN vrA vrE vrC vrF x5_b67 _ hw) rfl hl.1 rfl (Nat.le_of_ble_eq_true rfl) dX2_countOtherNodes_83 ⟨Nat.le_of_ble_eq_true rfl, Nat.le_of_ble_eq_true rfl⟩ (fun r_12 u_ H locs hw hP hD hS => ?_)
        replace hP : va_P G vwCl (wdS cI cJ cZ aS aR aE aC aF aT aK aH aW aA aQ aU vsB vrN vrA vrE vrC vrF vtN vtK vhN_b67 vhW_b67 vhA_b67 vsQ_b67 vsU_b67) H := hP.sub [0, 8, 9, 10, 11, 1, 2, 3, 4, 5, 6, 7] rfl
        replace hD : va_D A (wdS cI cJ cZ aS aR aE aC aF aT aK aH aW aA aQ aU vsB vrN vrA vrE vrC vrF vtN vtK vhN_b67 vhW_b67 vhA_b67 vsQ_b67 vsU_b67) := hD.sub [0, 8, 9, 10, 11, 1, 2, 3, 4, 5, 6, 7] (by decide) rfl
        refine lv_aload_n hx hb dX2_countOtherNodes_86 rfl (lv_at hl 0 rfl) ?_
        refine va_get (D := G) (ci := 2) (v := .ref aW) (C := RX2) (T := TX2) (N := 7) hx hb hts (fun _ h => List.mem_cons_of_mem _ (List.mem_append_left _ (List.mem_append_left _ (List.mem_append_left _ (List.mem_append_right _ h))))) hown hK hP 0 rfl rfl 2 (by decide) (hts _ (List.mem_of_getElem? (i := 2) rfl)) (fun _ h9 => h9) rfl dX2_countOtherNodes_87 ?_
        refine lv_iload hx hb dX2_countOtherNodes_90 (lv_at hl 4 rfl) ?_
        have h_13 := hw.1
        replace hw := hw.2
        refine va_lald hx hb hK hP 8 1 rfl rfl h_13 dX2_countOtherNodes_92 ?_
        refine kc_Vv (As := [.int r_11, .int r_12, .long (vhW_b67 x5_b67.toNatClampNeg)]) (rest := []) (wc := wdS cI cJ cZ aS aR aE aC aF aT aK aH aW aA aQ aU vsB vrN vrA vrE vrC vrF vtN vtK vhN_b67 vhW_b67 vhA_b67 vsQ_b67 vsU_b67) (wr := []) ⟨hx, hb, hml, hown, hts⟩ (cwV 3 hts gX2_countOtherNodes_X2_spread rfl rfl rfl (by decide +kernel) ⟨Nat.le_of_ble_eq_true rfl, Nat.le_of_ble_eq_true rfl⟩) hK hN hA hP hD hS [0, 1, 2, 3, 4, 5, 6, 7, 8, 9, 10, 11] [] rfl rfl (by decide) (by decide) (by decide) 0 rfl rfl (k_X2_spread l G cI cJ cZ aS aR aE aC aF aT aK aH aW aA aQ aU _ N vsB vrN vrA vrE vrC vrF vtN vtK vhN_b67 vhW_b67 vhA_b67 vsQ_b67 vsU_b67 r_11 r_12 (vhW_b67 x5_b67.toNatClampNeg) _ hw) rfl hl.1 rfl (Nat.le_of_ble_eq_true rfl) dX2_countOtherNodes_93 ⟨Nat.le_of_ble_eq_true rfl, Nat.le_of_ble_eq_true rfl⟩ (fun u_ H locs hw hP hD hS => ?_)
        obtain ⟨vhN_15, vhW_16, vhA_17, vsQ_18, vsU_19⟩ := u_
        replace hP : va_P G vwCl (wdS cI cJ cZ aS aR aE aC aF aT aK aH aW aA aQ aU vsB vrN vrA vrE vrC vrF vtN vtK vhN_15 vhW_16 vhA_17 vsQ_18 vsU_19) H := hP.sub [0, 1, 2, 3, 4, 5, 6, 7, 8, 9, 10, 11] rfl
        replace hD : va_D A (wdS cI cJ cZ aS aR aE aC aF aT aK aH aW aA aQ aU vsB vrN vrA vrE vrC vrF vtN vtK vhN_15 vhW_16 vhA_17 vsQ_18 vsU_19) := hD.sub [0, 1, 2, 3, 4, 5, 6, 7, 8, 9, 10, 11] (by decide) rfl
        obtain ⟨x4_20, e_21⟩ : ∃ y : Int32, y = x4_b67 + (1 : Int32) := ⟨_, rfl⟩
        replace hw := hw x4_20 e_21
        refine lv_iinc (v := x4_20) (lv' := [(4, .int x4_20), (0, .ref aS), (1, .long x1), (3, .int x3_b67), (5, .int x5_b67)]) hx hb dX2_countOtherNodes_96 hl (k := 3) rfl (by rw [e_21]; rfl) (by decide) rfl (fun ls hl => ?_)
        refine lv_goto (tgt := 5) hx hb dX2_countOtherNodes_99 (by decide) ?_
        replace hl : lv_has ls 6 [(0, .ref aS), (1, .long x1), (3, .int x3_b67), (4, .int x4_20)] := lv_sub hl [1, 2, 3, 0] rfl
        exact ih5 vhN_15 vhW_16 vhA_17 vsQ_18 vsU_19 x3_b67 x4_20 _ _ _ hw hP hD hS hl
      refine lv_iload hx hb dX2_countOtherNodes_5 (lv_at hl 3 rfl) ?_
      refine lv_sipush (v := (4000 : Int32)) hx hb dX2_countOtherNodes_7 (by decide) ?_
      refine lv_icmp_ge (tgt := 102) hx hb dX2_countOtherNodes_10 (by decide) (fun c_1 => ?_) (fun c_1 => ?_)
      · replace hw := hw.1 c_1
        refine lv_iload_n hx hb dX2_countOtherNodes_102 rfl (lv_at hl 2 rfl) ?_
        exact hret 103 x3_b5 (vhN_b5, vhW_b5, vhA_b5, vsQ_b5, vsU_b5) _ _ _ dX2_countOtherNodes_103 hw hP hD hS
      · replace hw := hw.2 c_1
        refine lv_aload_n hx hb dX2_countOtherNodes_13 rfl (lv_at hl 0 rfl) ?_
        refine va_get (D := G) (ci := 2) (v := .ref aH) (C := RX2) (T := TX2) (N := 7) hx hb hts (fun _ h => List.mem_cons_of_mem _ (List.mem_append_left _ (List.mem_append_left _ (List.mem_append_left _ (List.mem_append_right _ h))))) hown hK hP 0 rfl rfl 3 (by decide) (hts _ (List.mem_of_getElem? (i := 1) rfl)) (fun _ h9 => h9) rfl dX2_countOtherNodes_14 ?_
        refine kc_Vi (As := []) (rest := []) (wc := wdH cI cJ cZ aH aW aA vhN_b5 vhW_b5 vhA_b5) (wr := [(aS, .inr (2, [.ref aR, .ref aT, .ref aW, .ref aH, .ref aQ, .ref aU, .int vsB])), (aR, .inr (1, [.int vrN, .int vrA, .ref aE, .ref aC, .ref aF])), (aE, .inl (cI, 4000, .inl vrE)), (aC, .inl (cI, 4000, .inl vrC)), (aF, .inl (cI, 301, .inl vrF)), (aT, .inr (3, [.int vtN, .ref aK])), (aK, .inl (cI, 200, .inl vtK)), (aQ, .inl (cI, 4000, .inl vsQ_b5)), (aU, .inl (cI, 300, .inl vsU_b5))]) ⟨hx, hb, hml, hown, hts⟩ (cwV 0 hts gX2_countOtherNodes_X0_take rfl rfl rfl (by decide +kernel) ⟨Nat.le_of_ble_eq_true rfl, Nat.le_of_ble_eq_true rfl⟩) hK hN hA hP hD hS [7, 8, 9] [0, 1, 2, 3, 4, 5, 6, 10, 11] rfl rfl (by decide) (by decide) (by decide) 0 rfl rfl (k_X0_take l G cI cJ cZ aH aW aA _ N vhN_b5 vhW_b5 vhA_b5  _ hw) rfl hl.1 rfl (Nat.le_of_ble_eq_true rfl) dX2_countOtherNodes_17 ⟨Nat.le_of_ble_eq_true rfl, Nat.le_of_ble_eq_true rfl⟩ (fun r_2 u_ H locs hw hP hD hS => ?_)
        obtain ⟨vhN_3, vhA_4⟩ := u_
        replace hP : va_P G vwCl (wdS cI cJ cZ aS aR aE aC aF aT aK aH aW aA aQ aU vsB vrN vrA vrE vrC vrF vtN vtK vhN_3 vhW_b5 vhA_4 vsQ_b5 vsU_b5) H := hP.sub [0, 1, 2, 3, 4, 5, 6, 9, 10, 11, 7, 8] rfl
        replace hD : va_D A (wdS cI cJ cZ aS aR aE aC aF aT aK aH aW aA aQ aU vsB vrN vrA vrE vrC vrF vtN vtK vhN_3 vhW_b5 vhA_4 vsQ_b5 vsU_b5) := hD.sub [0, 1, 2, 3, 4, 5, 6, 9, 10, 11, 7, 8] (by decide) rfl
        refine lv_istore (lv' := [(5, .int r_2), (0, .ref aS), (1, .long x1), (3, .int x3_b5), (4, .int x4_b5)]) hx hb dX2_countOtherNodes_20 hl (by decide) rfl (fun ls hl => ?_)
        refine lv_iload hx hb dX2_countOtherNodes_22 (lv_at hl 0 rfl) ?_
        refine lv_iconst (v := (-1 : Int32)) hx hb dX2_countOtherNodes_24 (by decide) ?_
        refine lv_icmp_eq (tgt := 44) hx hb dX2_countOtherNodes_25 (by decide) (fun c_5 => ?_) (fun c_5 => ?_)
        · replace hw := hw.1 c_5
          refine lv_iload_n hx hb dX2_countOtherNodes_44 rfl (lv_at hl 3 rfl) ?_
          exact hret 45 x3_b5 (vhN_3, vhW_b5, vhA_4, vsQ_b5, vsU_b5) _ _ _ dX2_countOtherNodes_45 hw hP hD hS
        · replace hw := hw.2 c_5
          refine lv_aload_n hx hb dX2_countOtherNodes_28 rfl (lv_at hl 1 rfl) ?_
          refine va_get (D := G) (ci := 2) (v := .ref aW) (C := RX2) (T := TX2) (N := 7) hx hb hts (fun _ h => List.mem_cons_of_mem _ (List.mem_append_left _ (List.mem_append_left _ (List.mem_append_left _ (List.mem_append_right _ h))))) hown hK hP 0 rfl rfl 2 (by decide) (hts _ (List.mem_of_getElem? (i := 2) rfl)) (fun _ h9 => h9) rfl dX2_countOtherNodes_29 ?_
          refine lv_iload hx hb dX2_countOtherNodes_32 (lv_at hl 0 rfl) ?_
          have h_6 := hw.1
          replace hw := hw.2
          refine va_lald hx hb hK hP 8 1 rfl rfl h_6 dX2_countOtherNodes_34 ?_
          refine lv_ldc2 (v := (4096 : Int64)) hx hb hown (hts _ (List.mem_of_getElem? (i := 3) rfl)) dX2_countOtherNodes_35 ?_
          refine lv_ldiv hx hb dX2_countOtherNodes_38 (by decide) ?_
          refine lv_lload_n hx hb dX2_countOtherNodes_39 rfl (lv_at hl 2 rfl) ?_
          refine W.lcmp hx hb dX2_countOtherNodes_40 ?_
          refine lv_if_le (tgt := 46) hx hb dX2_countOtherNodes_41 (by decide) (fun c_7 => ?_) (fun c_7 => ?_)
          · replace hw := hw.1 c_7
            refine lv_aload_n hx hb dX2_countOtherNodes_46 rfl (lv_at hl 1 rfl) ?_
            refine va_get (D := G) (ci := 2) (v := .ref aU) (C := RX2) (T := TX2) (N := 7) hx hb hts (fun _ h => List.mem_cons_of_mem _ (List.mem_append_left _ (List.mem_append_left _ (List.mem_append_left _ (List.mem_append_right _ h))))) hown hK hP 0 rfl rfl 5 (by decide) (hts _ (List.mem_of_getElem? (i := 4) rfl)) (fun _ h9 => h9) rfl dX2_countOtherNodes_47 ?_
            refine lv_aload_n hx hb dX2_countOtherNodes_50 rfl (lv_at hl 1 rfl) ?_
            refine va_get (D := G) (ci := 2) (v := .ref aR) (C := RX2) (T := TX2) (N := 7) hx hb hts (fun _ h => List.mem_cons_of_mem _ (List.mem_append_left _ (List.mem_append_left _ (List.mem_append_left _ (List.mem_append_right _ h))))) hown hK hP 0 rfl rfl 0 (by decide) (hts _ (List.mem_of_getElem? (i := 5) rfl)) (fun _ h9 => h9) rfl dX2_countOtherNodes_51 ?_
            refine lv_iload hx hb dX2_countOtherNodes_54 (lv_at hl 0 rfl) ?_
            refine kc_Vi (As := [.int r_2]) (rest := [.ref aU]) (wc := wdR cI cJ cZ aR aE aC aF vrN vrA vrE vrC vrF) (wr := [(aS, .inr (2, [.ref aR, .ref aT, .ref aW, .ref aH, .ref aQ, .ref aU, .int vsB])), (aT, .inr (3, [.int vtN, .ref aK])), (aK, .inl (cI, 200, .inl vtK)), (aH, .inr (0, [.ref aW, .ref aA, .int vhN_3])), (aW, .inl (cJ, 4000, .inr (.inl vhW_b5))), (aA, .inl (cI, 4000, .inl vhA_4)), (aQ, .inl (cI, 4000, .inl vsQ_b5)), (aU, .inl (cI, 300, .inl vsU_b5))]) ⟨hx, hb, hml, hown, hts⟩ (cwV 1 hts gX2_countOtherNodes_X1_targetOf rfl rfl rfl (by decide +kernel) ⟨Nat.le_of_ble_eq_true rfl, Nat.le_of_ble_eq_true rfl⟩) hK hN hA hP hD hS [1, 2, 3, 4] [0, 5, 6, 7, 8, 9, 10, 11] rfl rfl (by decide) (by decide) (by decide) 0 rfl rfl (k_X1_targetOf l G cI cJ cZ aR aE aC aF _ N vrN vrA vrE vrC vrF r_2 _ hw) rfl hl.1 rfl (Nat.le_of_ble_eq_true rfl) dX2_countOtherNodes_56 ⟨Nat.le_of_ble_eq_true rfl, Nat.le_of_ble_eq_true rfl⟩ (fun r_8 u_ H locs hw hP hD hS => ?_)
            replace hP : va_P G vwCl (wdS cI cJ cZ aS aR aE aC aF aT aK aH aW aA aQ aU vsB vrN vrA vrE vrC vrF vtN vtK vhN_3 vhW_b5 vhA_4 vsQ_b5 vsU_b5) H := hP.sub [0, 8, 9, 10, 11, 1, 2, 3, 4, 5, 6, 7] rfl
            replace hD : va_D A (wdS cI cJ cZ aS aR aE aC aF aT aK aH aW aA aQ aU vsB vrN vrA vrE vrC vrF vtN vtK vhN_3 vhW_b5 vhA_4 vsQ_b5 vsU_b5) := hD.sub [0, 8, 9, 10, 11, 1, 2, 3, 4, 5, 6, 7] (by decide) rfl
            have h_9 := hw.1
            replace hw := hw.2
            refine va_iald hx hb hK hP 11 0 rfl rfl h_9 dX2_countOtherNodes_59 ?_
            refine lv_iconst (v := (-1 : Int32)) hx hb dX2_countOtherNodes_60 (by decide) ?_
            refine lv_icmp_ne (tgt := 67) hx hb dX2_countOtherNodes_61 (by decide) (fun c_10 => ?_) (fun c_10 => ?_)
            · replace hw := hw.1 c_10
              replace hl : lv_has ls 6 [(0, .ref aS), (1, .long x1), (3, .int x3_b5), (4, .int x4_b5), (5, .int r_2)] := lv_sub hl [1, 2, 3, 4, 0] rfl
              exact b67 vhN_3 vhW_b5 vhA_4 vsQ_b5 vsU_b5 x3_b5 x4_b5 r_2 _ _ _ hw hP hD hS hl
            · replace hw := hw.2 c_10
              obtain ⟨x3_22, e_23⟩ : ∃ y : Int32, y = x3_b5 + (1 : Int32) := ⟨_, rfl⟩
              replace hw := hw x3_22 e_23
              refine lv_iinc (v := x3_22) (lv' := [(3, .int x3_22), (5, .int r_2), (0, .ref aS), (1, .long x1), (4, .int x4_b5)]) hx hb dX2_countOtherNodes_64 hl (k := 3) rfl (by rw [e_23]; rfl) (by decide) rfl (fun ls hl => ?_)
              replace hl : lv_has ls 6 [(0, .ref aS), (1, .long x1), (3, .int x3_22), (4, .int x4_b5), (5, .int r_2)] := lv_sub hl [2, 3, 0, 4, 1] rfl
              exact b67 vhN_3 vhW_b5 vhA_4 vsQ_b5 vsU_b5 x3_22 x4_b5 r_2 _ _ _ hw hP hD hS hl
          · replace hw := hw.2 c_7
            refine lv_iload_n hx hb dX2_countOtherNodes_44 rfl (lv_at hl 3 rfl) ?_
            exact hret 45 x3_b5 (vhN_3, vhW_b5, vhA_4, vsQ_b5, vsU_b5) _ _ _ dX2_countOtherNodes_45 hw hP hD hS
  unfold w_X2_countOtherNodes at hw
  refine lv_iconst (v := (0 : Int32)) hx hb dX2_countOtherNodes_0 (by decide) ?_
  refine lv_istore_n (lv' := [(3, .int (0 : Int32)), (0, .ref aS), (1, .long x1)]) hx hb dX2_countOtherNodes_1 rfl hl (by decide) rfl (fun ls hl => ?_)
  refine lv_iconst (v := (0 : Int32)) hx hb dX2_countOtherNodes_2 (by decide) ?_
  refine lv_istore (lv' := [(4, .int (0 : Int32)), (3, .int (0 : Int32)), (0, .ref aS), (1, .long x1)]) hx hb dX2_countOtherNodes_3 hl (by decide) rfl (fun ls hl => ?_)
  replace hl : lv_has ls 6 [(0, .ref aS), (1, .long x1), (3, .int (0 : Int32)), (4, .int (0 : Int32))] := lv_sub hl [2, 3, 1, 0] rfl
  exact b5 N vhN vhW vhA vsQ vsU (0 : Int32) (0 : Int32) _ _ _ hw hP hD hS hl
def w_X2_leastArcBackTo_b11_B (N : Nat) (vsB : Int32) (vrN : Int32) (vrE : Nat → Int32) (vrF : Nat → Int32) (vtN : Int32) (vtK : Nat → Int32) (vhW : Nat → Int64) (x1 : Int32) (x2 : Int32) (x3 : Int64) (post : Int32 → Prop) (k11 : Int32 → Prop) (x5_b11 : Int32) : Prop :=
  vp_in (x1 + (1 : Int32)) 301 ∧ (((vrF (x1 + (1 : Int32)).toNatClampNeg) ≤ x5_b11 → post (-1 : Int32)) ∧ (¬ ((vrF (x1 + (1 : Int32)).toNatClampNeg) ≤ x5_b11) → w_X1_targetOf N vrE x5_b11 (fun r_6 => w_X1_find N vrN vrE vrF r_6 x1 (fun r_7 => ((r_7 = (-1 : Int32) → ∀ x5_9 : Int32, x5_9 = x5_b11 + (1 : Int32) → k11 x5_9) ∧ (¬ (r_7 = (-1 : Int32)) → vp_in r_7 4000 ∧ ((¬ (lg_cmp (vhW r_7.toNatClampNeg) x3) = (0 : Int32) → ∀ x5_13 : Int32, x5_13 = x5_b11 + (1 : Int32) → k11 x5_13) ∧ ((lg_cmp (vhW r_7.toNatClampNeg) x3) = (0 : Int32) → w_X2_mayTurn N vsB vtN vtK r_6 x1 x2 (fun r_15 => ((r_15 = (0 : Int32) → ∀ x5_17 : Int32, x5_17 = x5_b11 + (1 : Int32) → k11 x5_17) ∧ (¬ (r_15 = (0 : Int32)) → post r_7)))))))))))
def w_X2_leastArcBackTo_b11 (N : Nat) (vsB : Int32) (vrN : Int32) (vrE : Nat → Int32) (vrF : Nat → Int32) (vtN : Int32) (vtK : Nat → Int32) (vhW : Nat → Int64) (x1 : Int32) (x2 : Int32) (x3 : Int64) (post : Int32 → Prop) : Nat → Int32 → Prop
  | 0, _ => False
  | n + 1, x5_b11 => w_X2_leastArcBackTo_b11_B N vsB vrN vrE vrF vtN vtK vhW x1 x2 x3 post (w_X2_leastArcBackTo_b11 N vsB vrN vrE vrF vtN vtK vhW x1 x2 x3 post n) x5_b11
def w_X2_leastArcBackTo (N : Nat) (vsB : Int32) (vrN : Int32) (vrE : Nat → Int32) (vrF : Nat → Int32) (vtN : Int32) (vtK : Nat → Int32) (vhW : Nat → Int64) (x1 : Int32) (x2 : Int32) (x3 : Int64) (post : Int32 → Prop) : Prop :=
  vp_in x1 301 ∧ ∀ x5_2 : Int32, x5_2 = (vrF x1.toNatClampNeg) → w_X2_leastArcBackTo_b11 N vsB vrN vrE vrF vtN vtK vhW x1 x2 x3 post N x5_2
abbrev rm_X2_leastArcBackTo : Room := { frames := 3, cells := 0, slots := 0, locals := 74 }
set_option maxHeartbeats 4000000 in
set_option maxRecDepth 100000 in
theorem k_X2_leastArcBackTo (l : Launch) (G : va_G) (cI cJ cZ : ClassId) (aS aR aE aC aF aT aK aH aW aA aQ aU : Nat) (sz N : Nat) (vsB : Int32) (vrN : Int32) (vrA : Int32) (vrE : Nat → Int32) (vrC : Nat → Int32) (vrF : Nat → Int32) (vtN : Int32) (vtK : Nat → Int32) (vhN : Int32) (vhW : Nat → Int64) (vhA : Nat → Int32) (vsQ : Nat → Int32) (vsU : Nat → Int32) (x1 : Int32) (x2 : Int32) (x3 : Int64) (post : Int32 → Prop) (hw : w_X2_leastArcBackTo N vsB vrN vrE vrF vtN vtK vhW x1 x2 x3 post) : Met l yX2_leastArcBackTo wsX2_leastArcBackTo rm_X2_leastArcBackTo (kPc G (tyL cI cJ cZ) [.ref aS, .int x1, .int x2, .long x3] sz (wdS cI cJ cZ aS aR aE aC aF aT aK aH aW aA aQ aU vsB vrN vrA vrE vrC vrF vtN vtK vhN vhW vhA vsQ vsU)) (va_Qi (fun (r : Int32) (u : Unit) => post r ) (kB G (tyL cI cJ cZ) (va_A (wdS cI cJ cZ aS aR aE aC aF aT aK aH aW aA aQ aU vsB vrN vrA vrE vrC vrF vtN vtK vhN vhW vhA vsQ vsU) sz) (fun (u : Unit) => wdS cI cJ cZ aS aR aE aC aF aT aK aH aW aA aQ aU vsB vrN vrA vrE vrC vrF vtN vtK vhN vhW vhA vsQ vsU)) (va_A (wdS cI cJ cZ aS aR aE aC aF aT aK aH aW aA aQ aU vsB vrN vrA vrE vrC vrF vtN vtK vhN vhW vhA vsQ vsU) sz)) 0 0 (va_A (wdS cI cJ cZ aS aR aE aC aF aT aK aH aW aA aQ aU vsB vrN vrA vrE vrC vrF vtN vtK vhN vhW vhA vsQ vsU) sz) := by
  refine km_i (cc := cX2_leastArcBackTo) (maxL := 8) (by decide) rfl (Nat.le_of_ble_eq_true rfl) ?_
  intro p e s m below meth c A Q ls hx hb hml hts hown hnm hK hN hA hP hD hS hl hret
  replace hown : s.vm.findClass RX2 = some m.cls := hown
  replace hl : lv_has ls 8 [(0, .ref aS), (1, .int x1), (2, .int x2), (3, .long x3)] := hl
  have b11 : ∀ (n11 : Nat) (x5_b11 : Int32) (H : Heap) (locs : List Loc) (ls : Array Slot), w_X2_leastArcBackTo_b11 N vsB vrN vrE vrF vtN vtK vhW x1 x2 x3 post n11 x5_b11 → va_P G vwCl (wdS cI cJ cZ aS aR aE aC aF aT aK aH aW aA aQ aU vsB vrN vrA vrE vrC vrF vtN vtK vhN vhW vhA vsQ vsU) H → va_D A (wdS cI cJ cZ aS aR aE aC aF aT aK aH aW aA aQ aU vsB vrN vrA vrE vrC vrF vtN vtK vhN vhW vhA vsQ vsU) → va_S A s.heap H locs → lv_has ls 8 [(0, .ref aS), (1, .int x1), (2, .int x2), (3, .long x3), (5, .int x5_b11)] → W p l e rm_X2_leastArcBackTo s m ([.ref aS, .int x1, .int x2, .long x3] : List Value).toArray below meth c H locs 0 0 Q (F0 m 11 ls []) := by
    intro n11
    induction n11 with
    | zero => intro x5_b11 H locs ls hw; exact hw.elim
    | succ n11 ih11 =>
      intro x5_b11 H locs ls hw hP hD hS hl
      replace hw : w_X2_leastArcBackTo_b11_B N vsB vrN vrE vrF vtN vtK vhW x1 x2 x3 post (w_X2_leastArcBackTo_b11 N vsB vrN vrE vrF vtN vtK vhW x1 x2 x3 post n11) x5_b11 := hw
      unfold w_X2_leastArcBackTo_b11_B at hw
      refine lv_iload hx hb dX2_leastArcBackTo_11 (lv_at hl 4 rfl) ?_
      refine lv_aload_n hx hb dX2_leastArcBackTo_13 rfl (lv_at hl 0 rfl) ?_
      refine va_get (D := G) (ci := 2) (v := .ref aR) (C := RX2) (T := TX2) (N := 7) hx hb hts (fun _ h => List.mem_cons_of_mem _ (List.mem_append_left _ (List.mem_append_left _ (List.mem_append_right _ h)))) hown hK hP 0 rfl rfl 0 (by decide) (hts _ (List.mem_of_getElem? (i := 1) rfl)) (fun _ h9 => h9) rfl dX2_leastArcBackTo_14 ?_
      refine va_getN (D := G) (ci := 1) (v := .ref aF) (C := RX1) (T := TX1) (N := 5) hx hb hts (fun _ h => List.mem_cons_of_mem _ (List.mem_append_left _ (List.mem_append_right _ h))) hown hK hP 1 rfl rfl 4 (by decide) (va_Nw.use rfl (hN _ (List.mem_of_getElem? (i := 4) rfl))) (fun _ h9 => h9) rfl dX2_leastArcBackTo_17 ?_
      refine lv_iload_n hx hb dX2_leastArcBackTo_20 rfl (lv_at hl 1 rfl) ?_
      refine lv_iconst (v := (1 : Int32)) hx hb dX2_leastArcBackTo_21 (by decide) ?_
      refine lv_iadd hx hb dX2_leastArcBackTo_22 ?_
      have h_4 := hw.1
      replace hw := hw.2
      refine va_iald hx hb hK hP 4 0 rfl rfl h_4 dX2_leastArcBackTo_23 ?_
      refine lv_icmp_ge (tgt := 88) hx hb dX2_leastArcBackTo_24 (by decide) (fun c_5 => ?_) (fun c_5 => ?_)
      · replace hw := hw.1 c_5
        refine lv_iconst (v := (-1 : Int32)) hx hb dX2_leastArcBackTo_88 (by decide) ?_
        exact hret 89 (-1 : Int32) () _ _ _ dX2_leastArcBackTo_89 hw hP hD hS
      · replace hw := hw.2 c_5
        refine lv_aload_n hx hb dX2_leastArcBackTo_27 rfl (lv_at hl 0 rfl) ?_
        refine va_get (D := G) (ci := 2) (v := .ref aR) (C := RX2) (T := TX2) (N := 7) hx hb hts (fun _ h => List.mem_cons_of_mem _ (List.mem_append_left _ (List.mem_append_left _ (List.mem_append_right _ h)))) hown hK hP 0 rfl rfl 0 (by decide) (hts _ (List.mem_of_getElem? (i := 1) rfl)) (fun _ h9 => h9) rfl dX2_leastArcBackTo_28 ?_
        refine lv_iload hx hb dX2_leastArcBackTo_31 (lv_at hl 4 rfl) ?_
        refine kc_Vi (As := [.int x5_b11]) (rest := []) (wc := wdR cI cJ cZ aR aE aC aF vrN vrA vrE vrC vrF) (wr := [(aS, .inr (2, [.ref aR, .ref aT, .ref aW, .ref aH, .ref aQ, .ref aU, .int vsB])), (aT, .inr (3, [.int vtN, .ref aK])), (aK, .inl (cI, 200, .inl vtK)), (aH, .inr (0, [.ref aW, .ref aA, .int vhN])), (aW, .inl (cJ, 4000, .inr (.inl vhW))), (aA, .inl (cI, 4000, .inl vhA)), (aQ, .inl (cI, 4000, .inl vsQ)), (aU, .inl (cI, 300, .inl vsU))]) ⟨hx, hb, hml, hown, hts⟩ (cwV 1 hts gX2_leastArcBackTo_X1_targetOf rfl rfl rfl (by decide +kernel) ⟨Nat.le_of_ble_eq_true rfl, Nat.le_of_ble_eq_true rfl⟩) hK hN hA hP hD hS [1, 2, 3, 4] [0, 5, 6, 7, 8, 9, 10, 11] rfl rfl (by decide) (by decide) (by decide) 0 rfl rfl (k_X1_targetOf l G cI cJ cZ aR aE aC aF _ N vrN vrA vrE vrC vrF x5_b11 _ hw) rfl hl.1 rfl (Nat.le_of_ble_eq_true rfl) dX2_leastArcBackTo_33 ⟨Nat.le_of_ble_eq_true rfl, Nat.le_of_ble_eq_true rfl⟩ (fun r_6 u_ H locs hw hP hD hS => ?_)
        replace hP : va_P G vwCl (wdS cI cJ cZ aS aR aE aC aF aT aK aH aW aA aQ aU vsB vrN vrA vrE vrC vrF vtN vtK vhN vhW vhA vsQ vsU) H := hP.sub [0, 8, 9, 10, 11, 1, 2, 3, 4, 5, 6, 7] rfl
        replace hD : va_D A (wdS cI cJ cZ aS aR aE aC aF aT aK aH aW aA aQ aU vsB vrN vrA vrE vrC vrF vtN vtK vhN vhW vhA vsQ vsU) := hD.sub [0, 8, 9, 10, 11, 1, 2, 3, 4, 5, 6, 7] (by decide) rfl
        refine lv_istore (lv' := [(6, .int r_6), (0, .ref aS), (1, .int x1), (2, .int x2), (3, .long x3), (5, .int x5_b11)]) hx hb dX2_leastArcBackTo_36 hl (by decide) rfl (fun ls hl => ?_)
        refine lv_aload_n hx hb dX2_leastArcBackTo_38 rfl (lv_at hl 1 rfl) ?_
        refine va_get (D := G) (ci := 2) (v := .ref aR) (C := RX2) (T := TX2) (N := 7) hx hb hts (fun _ h => List.mem_cons_of_mem _ (List.mem_append_left _ (List.mem_append_left _ (List.mem_append_right _ h)))) hown hK hP 0 rfl rfl 0 (by decide) (hts _ (List.mem_of_getElem? (i := 1) rfl)) (fun _ h9 => h9) rfl dX2_leastArcBackTo_39 ?_
        refine lv_iload hx hb dX2_leastArcBackTo_42 (lv_at hl 0 rfl) ?_
        refine lv_iload_n hx hb dX2_leastArcBackTo_44 rfl (lv_at hl 2 rfl) ?_
        refine kc_Vi (As := [.int r_6, .int x1]) (rest := []) (wc := wdR cI cJ cZ aR aE aC aF vrN vrA vrE vrC vrF) (wr := [(aS, .inr (2, [.ref aR, .ref aT, .ref aW, .ref aH, .ref aQ, .ref aU, .int vsB])), (aT, .inr (3, [.int vtN, .ref aK])), (aK, .inl (cI, 200, .inl vtK)), (aH, .inr (0, [.ref aW, .ref aA, .int vhN])), (aW, .inl (cJ, 4000, .inr (.inl vhW))), (aA, .inl (cI, 4000, .inl vhA)), (aQ, .inl (cI, 4000, .inl vsQ)), (aU, .inl (cI, 300, .inl vsU))]) ⟨hx, hb, hml, hown, hts⟩ (cwV 2 hts gX2_leastArcBackTo_X1_find rfl rfl rfl (by decide +kernel) ⟨Nat.le_of_ble_eq_true rfl, Nat.le_of_ble_eq_true rfl⟩) hK hN hA hP hD hS [1, 2, 3, 4] [0, 5, 6, 7, 8, 9, 10, 11] rfl rfl (by decide) (by decide) (by decide) 0 rfl rfl (k_X1_find l G cI cJ cZ aR aE aC aF _ N vrN vrA vrE vrC vrF r_6 x1 _ hw) rfl hl.1 rfl (Nat.le_of_ble_eq_true rfl) dX2_leastArcBackTo_45 ⟨Nat.le_of_ble_eq_true rfl, Nat.le_of_ble_eq_true rfl⟩ (fun r_7 u_ H locs hw hP hD hS => ?_)
        replace hP : va_P G vwCl (wdS cI cJ cZ aS aR aE aC aF aT aK aH aW aA aQ aU vsB vrN vrA vrE vrC vrF vtN vtK vhN vhW vhA vsQ vsU) H := hP.sub [0, 8, 9, 10, 11, 1, 2, 3, 4, 5, 6, 7] rfl
        replace hD : va_D A (wdS cI cJ cZ aS aR aE aC aF aT aK aH aW aA aQ aU vsB vrN vrA vrE vrC vrF vtN vtK vhN vhW vhA vsQ vsU) := hD.sub [0, 8, 9, 10, 11, 1, 2, 3, 4, 5, 6, 7] (by decide) rfl
        refine lv_istore (lv' := [(7, .int r_7), (6, .int r_6), (0, .ref aS), (1, .int x1), (2, .int x2), (3, .long x3), (5, .int x5_b11)]) hx hb dX2_leastArcBackTo_48 hl (by decide) rfl (fun ls hl => ?_)
        refine lv_iload hx hb dX2_leastArcBackTo_50 (lv_at hl 0 rfl) ?_
        refine lv_iconst (v := (-1 : Int32)) hx hb dX2_leastArcBackTo_52 (by decide) ?_
        refine lv_icmp_eq (tgt := 82) hx hb dX2_leastArcBackTo_53 (by decide) (fun c_8 => ?_) (fun c_8 => ?_)
        · replace hw := hw.1 c_8
          obtain ⟨x5_9, e_10⟩ : ∃ y : Int32, y = x5_b11 + (1 : Int32) := ⟨_, rfl⟩
          replace hw := hw x5_9 e_10
          refine lv_iinc (v := x5_9) (lv' := [(5, .int x5_9), (7, .int r_7), (6, .int r_6), (0, .ref aS), (1, .int x1), (2, .int x2), (3, .long x3)]) hx hb dX2_leastArcBackTo_82 hl (k := 6) rfl (by rw [e_10]; rfl) (by decide) rfl (fun ls hl => ?_)
          refine lv_goto (tgt := 11) hx hb dX2_leastArcBackTo_85 (by decide) ?_
          replace hl : lv_has ls 8 [(0, .ref aS), (1, .int x1), (2, .int x2), (3, .long x3), (5, .int x5_9)] := lv_sub hl [3, 4, 5, 6, 0] rfl
          exact ih11 x5_9 _ _ _ hw hP hD hS hl
        · replace hw := hw.2 c_8
          refine lv_aload_n hx hb dX2_leastArcBackTo_56 rfl (lv_at hl 2 rfl) ?_
          refine va_get (D := G) (ci := 2) (v := .ref aW) (C := RX2) (T := TX2) (N := 7) hx hb hts (fun _ h => List.mem_cons_of_mem _ (List.mem_append_left _ (List.mem_append_left _ (List.mem_append_right _ h)))) hown hK hP 0 rfl rfl 2 (by decide) (hts _ (List.mem_of_getElem? (i := 2) rfl)) (fun _ h9 => h9) rfl dX2_leastArcBackTo_57 ?_
          refine lv_iload hx hb dX2_leastArcBackTo_60 (lv_at hl 0 rfl) ?_
          have h_11 := hw.1
          replace hw := hw.2
          refine va_lald hx hb hK hP 8 1 rfl rfl h_11 dX2_leastArcBackTo_62 ?_
          refine lv_lload_n hx hb dX2_leastArcBackTo_63 rfl (lv_at hl 5 rfl) ?_
          refine W.lcmp hx hb dX2_leastArcBackTo_64 ?_
          refine lv_if_ne (tgt := 82) hx hb dX2_leastArcBackTo_65 (by decide) (fun c_12 => ?_) (fun c_12 => ?_)
          · replace hw := hw.1 c_12
            obtain ⟨x5_13, e_14⟩ : ∃ y : Int32, y = x5_b11 + (1 : Int32) := ⟨_, rfl⟩
            replace hw := hw x5_13 e_14
            refine lv_iinc (v := x5_13) (lv' := [(5, .int x5_13), (7, .int r_7), (6, .int r_6), (0, .ref aS), (1, .int x1), (2, .int x2), (3, .long x3)]) hx hb dX2_leastArcBackTo_82 hl (k := 6) rfl (by rw [e_14]; rfl) (by decide) rfl (fun ls hl => ?_)
            refine lv_goto (tgt := 11) hx hb dX2_leastArcBackTo_85 (by decide) ?_
            replace hl : lv_has ls 8 [(0, .ref aS), (1, .int x1), (2, .int x2), (3, .long x3), (5, .int x5_13)] := lv_sub hl [3, 4, 5, 6, 0] rfl
            exact ih11 x5_13 _ _ _ hw hP hD hS hl
          · replace hw := hw.2 c_12
            refine lv_aload_n hx hb dX2_leastArcBackTo_68 rfl (lv_at hl 2 rfl) ?_
            refine lv_iload hx hb dX2_leastArcBackTo_69 (lv_at hl 1 rfl) ?_
            refine lv_iload_n hx hb dX2_leastArcBackTo_71 rfl (lv_at hl 3 rfl) ?_
            refine lv_iload_n hx hb dX2_leastArcBackTo_72 rfl (lv_at hl 4 rfl) ?_
            refine kc_Vi (As := [.int r_6, .int x1, .int x2]) (rest := []) (wc := wdS cI cJ cZ aS aR aE aC aF aT aK aH aW aA aQ aU vsB vrN vrA vrE vrC vrF vtN vtK vhN vhW vhA vsQ vsU) (wr := []) ⟨hx, hb, hml, hown, hts⟩ (cwV 3 hts gX2_leastArcBackTo_X2_mayTurn rfl rfl rfl (by decide +kernel) ⟨Nat.le_of_ble_eq_true rfl, Nat.le_of_ble_eq_true rfl⟩) hK hN hA hP hD hS [0, 1, 2, 3, 4, 5, 6, 7, 8, 9, 10, 11] [] rfl rfl (by decide) (by decide) (by decide) 0 rfl rfl (k_X2_mayTurn l G cI cJ cZ aS aR aE aC aF aT aK aH aW aA aQ aU _ N vsB vrN vrA vrE vrC vrF vtN vtK vhN vhW vhA vsQ vsU r_6 x1 x2 _ hw) rfl hl.1 rfl (Nat.le_of_ble_eq_true rfl) dX2_leastArcBackTo_73 ⟨Nat.le_of_ble_eq_true rfl, Nat.le_of_ble_eq_true rfl⟩ (fun r_15 u_ H locs hw hP hD hS => ?_)
            replace hP : va_P G vwCl (wdS cI cJ cZ aS aR aE aC aF aT aK aH aW aA aQ aU vsB vrN vrA vrE vrC vrF vtN vtK vhN vhW vhA vsQ vsU) H := hP.sub [0, 1, 2, 3, 4, 5, 6, 7, 8, 9, 10, 11] rfl
            replace hD : va_D A (wdS cI cJ cZ aS aR aE aC aF aT aK aH aW aA aQ aU vsB vrN vrA vrE vrC vrF vtN vtK vhN vhW vhA vsQ vsU) := hD.sub [0, 1, 2, 3, 4, 5, 6, 7, 8, 9, 10, 11] (by decide) rfl
            refine lv_if_eq (tgt := 82) hx hb dX2_leastArcBackTo_76 (by decide) (fun c_16 => ?_) (fun c_16 => ?_)
            · replace hw := hw.1 c_16
              obtain ⟨x5_17, e_18⟩ : ∃ y : Int32, y = x5_b11 + (1 : Int32) := ⟨_, rfl⟩
              replace hw := hw x5_17 e_18
              refine lv_iinc (v := x5_17) (lv' := [(5, .int x5_17), (7, .int r_7), (6, .int r_6), (0, .ref aS), (1, .int x1), (2, .int x2), (3, .long x3)]) hx hb dX2_leastArcBackTo_82 hl (k := 6) rfl (by rw [e_18]; rfl) (by decide) rfl (fun ls hl => ?_)
              refine lv_goto (tgt := 11) hx hb dX2_leastArcBackTo_85 (by decide) ?_
              replace hl : lv_has ls 8 [(0, .ref aS), (1, .int x1), (2, .int x2), (3, .long x3), (5, .int x5_17)] := lv_sub hl [3, 4, 5, 6, 0] rfl
              exact ih11 x5_17 _ _ _ hw hP hD hS hl
            · replace hw := hw.2 c_16
              refine lv_iload hx hb dX2_leastArcBackTo_79 (lv_at hl 0 rfl) ?_
              exact hret 81 r_7 () _ _ _ dX2_leastArcBackTo_81 hw hP hD hS
  unfold w_X2_leastArcBackTo at hw
  refine lv_aload_n hx hb dX2_leastArcBackTo_0 rfl (lv_at hl 0 rfl) ?_
  refine va_get (D := G) (ci := 2) (v := .ref aR) (C := RX2) (T := TX2) (N := 7) hx hb hts (fun _ h => List.mem_cons_of_mem _ (List.mem_append_left _ (List.mem_append_left _ (List.mem_append_right _ h)))) hown hK hP 0 rfl rfl 0 (by decide) (hts _ (List.mem_of_getElem? (i := 1) rfl)) (fun _ h9 => h9) rfl dX2_leastArcBackTo_1 ?_
  refine va_getN (D := G) (ci := 1) (v := .ref aF) (C := RX1) (T := TX1) (N := 5) hx hb hts (fun _ h => List.mem_cons_of_mem _ (List.mem_append_left _ (List.mem_append_right _ h))) hown hK hP 1 rfl rfl 4 (by decide) (va_Nw.use rfl (hN _ (List.mem_of_getElem? (i := 4) rfl))) (fun _ h9 => h9) rfl dX2_leastArcBackTo_4 ?_
  refine lv_iload_n hx hb dX2_leastArcBackTo_7 rfl (lv_at hl 1 rfl) ?_
  have h_1 := hw.1
  replace hw := hw.2
  refine va_iald hx hb hK hP 4 0 rfl rfl h_1 dX2_leastArcBackTo_8 ?_
  refine lv_topi (fun x5_2 e_3 => ?_)
  replace hw := hw x5_2 e_3
  refine lv_istore (lv' := [(5, .int x5_2), (0, .ref aS), (1, .int x1), (2, .int x2), (3, .long x3)]) hx hb dX2_leastArcBackTo_9 hl (by decide) rfl (fun ls hl => ?_)
  replace hl : lv_has ls 8 [(0, .ref aS), (1, .int x1), (2, .int x2), (3, .long x3), (5, .int x5_2)] := lv_sub hl [1, 2, 3, 4, 0] rfl
  exact b11 N x5_2 _ _ _ hw hP hD hS hl
