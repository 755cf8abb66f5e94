def w_X3_reset (N : Nat) (vtN : Int32)  (post : Int32 → Prop) : Prop :=
  post (0 : Int32)
abbrev rm_X3_reset : Room := { frames := 0, cells := 0, slots := 0, locals := 0 }
set_option maxHeartbeats 4000000 in
set_option maxRecDepth 100000 in
theorem k_X3_reset (l : Launch) (G : va_G) (cI cJ cZ : ClassId) (aT aK : Nat) (sz N : Nat) (vtN : Int32) (vtK : Nat → Int32)  (post : Int32 → Prop) (hw : w_X3_reset N vtN post) : Met l yX3_reset wsX3_reset rm_X3_reset (kPc G (tyL cI cJ cZ) [.ref aT] sz (wdT cI cJ cZ aT aK vtN vtK)) (va_Qv (fun (u : Int32) => post u) (kB G (tyL cI cJ cZ) (va_A (wdT cI cJ cZ aT aK vtN vtK) sz) (fun (u : Int32) => wdT cI cJ cZ aT aK u vtK)) (va_A (wdT cI cJ cZ aT aK vtN vtK) sz)) 0 0 (va_A (wdT cI cJ cZ aT aK vtN vtK) sz) := by
  refine km_v (cc := cX3_reset) (maxL := 1) (by decide) rfl (Nat.le_of_ble_eq_true rfl) ?_
  intro p e s m below meth c A Q ls hx hb hml hts hown hnm hK hN hA hP hD hS hl hret
  replace hown : s.vm.findClass RX3 = some m.cls := hown
  replace hl : lv_has ls 1 [(0, .ref aT)] := hl
  unfold w_X3_reset at hw
  refine lv_aload_n hx hb dX3_reset_0 rfl (lv_at hl 0 rfl) ?_
  refine lv_iconst (v := (0 : Int32)) hx hb dX3_reset_1 (by decide) ?_
  refine va_put (D := G) (ci := 3) (v := .int (0 : Int32)) (ty := .int) (C := RX3) (T := TX3) (N := 2) hx hb hts (fun _ h => List.mem_cons_of_mem _ (List.mem_append_right _ h)) tyX3 tyX3_ok nmX3 hown hK hP hD hS 0 rfl rfl 0 (by decide) (hts _ (List.mem_of_getElem? (i := 1) rfl)) (fun _ h9 => h9) rfl (by decide +kernel) rfl rfl (Nat.le_of_ble_eq_true rfl) dX3_reset_2 (fun H locs hP hD hS => ?_)
  replace hP : va_P G vwCl (wdT cI cJ cZ aT aK (0 : Int32) vtK) H := hP
  replace hD : va_D A (wdT cI cJ cZ aT aK (0 : Int32) vtK) := hD
  exact hret 5 ((0 : Int32)) _ _ _ dX3_reset_5 hw hP hD hS
def w_X3_isBarred (N : Nat) (vtN : Int32) (vtK : Nat → Int32) (x1 : Int32) (x2 : Int32) (x3 : Int32) (post : Int32 → Prop) : Prop :=
  w_X3_key N x1 x2 x3 (fun r_1 => w_X4_placeIn N vtK 200 (0 : Int32) vtN r_1 (fun r_2 => ((vtN ≤ r_2 → post (0 : Int32)) ∧ (¬ (vtN ≤ r_2) → vp_in r_2 200 ∧ ((¬ (vtK r_2.toNatClampNeg) = r_1 → post (0 : Int32)) ∧ ((vtK r_2.toNatClampNeg) = r_1 → post (1 : Int32)))))))
abbrev rm_X3_isBarred : Room := { frames := 1, cells := 0, slots := 0, locals := 26 }
set_option maxHeartbeats 4000000 in
set_option maxRecDepth 100000 in
theorem k_X3_isBarred (l : Launch) (G : va_G) (cI cJ cZ : ClassId) (aT aK : Nat) (sz N : Nat) (vtN : Int32) (vtK : Nat → Int32) (x1 : Int32) (x2 : Int32) (x3 : Int32) (post : Int32 → Prop) (hw : w_X3_isBarred N vtN vtK x1 x2 x3 post) : Met l yX3_isBarred wsX3_isBarred rm_X3_isBarred (kPc G (tyL cI cJ cZ) [.ref aT, .int x1, .int x2, .int x3] sz (wdT cI cJ cZ aT aK vtN vtK)) (va_Qi (fun (r : Int32) (u : Unit) => post r ) (kB G (tyL cI cJ cZ) (va_A (wdT cI cJ cZ aT aK vtN vtK) sz) (fun (u : Unit) => wdT cI cJ cZ aT aK vtN vtK)) (va_A (wdT cI cJ cZ aT aK vtN vtK) sz)) 0 0 (va_A (wdT cI cJ cZ aT aK vtN vtK) sz) := by
  refine km_z (cc := cX3_isBarred) (maxL := 6) (by decide) rfl (Nat.le_of_ble_eq_true rfl) ?_
  intro p e s m below meth c A Q ls hx hb hml hts hown hnm hK hN hA hP hD hS hl hret
  replace hown : s.vm.findClass RX3 = some m.cls := hown
  replace hl : lv_has ls 6 [(0, .ref aT), (1, .int x1), (2, .int x2), (3, .int x3)] := hl
  unfold w_X3_isBarred at hw
  refine lv_iload_n hx hb dX3_isBarred_0 rfl (lv_at hl 1 rfl) ?_
  refine lv_iload_n hx hb dX3_isBarred_1 rfl (lv_at hl 2 rfl) ?_
  refine lv_iload_n hx hb dX3_isBarred_2 rfl (lv_at hl 3 rfl) ?_
  refine kc_Si (As := [.int x1, .int x2, .int x3]) (rest := []) (wc := []) (wr := [(aT, .inr (3, [.int vtN, .ref aK])), (aK, .inl (cI, 200, .inl vtK))]) ⟨hx, hb, hml, hown, hts⟩ (va_cwS 3 hts gX3_isBarred_X3_key rfl rfl rfl (by decide +kernel) ⟨Nat.le_of_ble_eq_true rfl, Nat.le_of_ble_eq_true rfl⟩) hK hN hA hP hD hS [] [0, 1] rfl rfl (by decide) (by decide) (by decide) (k_X3_key l G cI cJ cZ  _ N  x1 x2 x3 _ hw) rfl hl.1 rfl (Nat.le_of_ble_eq_true rfl) dX3_isBarred_3 ⟨Nat.le_of_ble_eq_true rfl, Nat.le_of_ble_eq_true rfl⟩ (fun r_1 u_ H locs hw hP hD hS => ?_)
  replace hP : va_P G vwCl (wdT cI cJ cZ aT aK vtN vtK) H := hP.sub [0, 1] rfl
  replace hD : va_D A (wdT cI cJ cZ aT aK vtN vtK) := hD.sub [0, 1] (by decide) rfl
  refine lv_istore (lv' := [(4, .int r_1), (0, .ref aT), (1, .int x1), (2, .int x2), (3, .int x3)]) hx hb dX3_isBarred_6 hl (by decide) rfl (fun ls hl => ?_)
  refine lv_aload_n hx hb dX3_isBarred_8 rfl (lv_at hl 1 rfl) ?_
  refine va_get (D := G) (ci := 3) (v := .ref aK) (C := RX3) (T := TX3) (N := 2) hx hb hts (fun _ h => List.mem_cons_of_mem _ (List.mem_append_right _ h)) hown hK hP 0 rfl rfl 1 (by decide) (hts _ (List.mem_of_getElem? (i := 1) rfl)) (fun _ h9 => h9) rfl dX3_isBarred_9 ?_
  refine lv_iconst (v := (0 : Int32)) hx hb dX3_isBarred_12 (by decide) ?_
  refine lv_aload_n hx hb dX3_isBarred_13 rfl (lv_at hl 1 rfl) ?_
  refine va_get (D := G) (ci := 3) (v := .int vtN) (C := RX3) (T := TX3) (N := 2) hx hb hts (fun _ h => List.mem_cons_of_mem _ (List.mem_append_right _ h)) hown hK hP 0 rfl rfl 0 (by decide) (hts _ (List.mem_of_getElem? (i := 2) rfl)) (fun _ h9 => h9) rfl dX3_isBarred_14 ?_
  refine lv_iload hx hb dX3_isBarred_17 (lv_at hl 0 rfl) ?_
  refine kc_SNi (As := [.ref aK, .int (0 : Int32), .int vtN, .int r_1]) (rest := []) (wc := wdP cI cJ cZ aK 200 vtK) (wr := [(aT, .inr (3, [.int vtN, .ref aK]))]) ⟨hx, hb, hml, hown, hts⟩ ⟨va_cnB 4 hts gX3_isBarred_X4_placeIn_n23 rfl rfl rfl (hN _ (List.mem_of_getElem? (i := 7) rfl)) (hts _ (List.mem_of_getElem? (i := 8) rfl)) (by decide +kernel) ⟨Nat.le_of_ble_eq_true rfl, Nat.le_of_ble_eq_true rfl⟩, hts _ (List.mem_of_getElem? (i := 7) rfl), trivial⟩ hK hN hA hP hD hS [1] [0] rfl rfl (by decide) (by decide) (by decide) (k_X4_placeIn l G cI cJ cZ aK 200 _ N vtK (0 : Int32) vtN r_1 _ hw) rfl hl.1 rfl (Nat.le_of_ble_eq_true rfl) dX3_isBarred_19 ⟨Nat.le_of_ble_eq_true rfl, Nat.le_of_ble_eq_true rfl⟩ (fun r_2 u_ H locs hw hP hD hS => ?_)
  replace hP : va_P G vwCl (wdT cI cJ cZ aT aK vtN vtK) H := hP.sub [0, 1] rfl
  replace hD : va_D A (wdT cI cJ cZ aT aK vtN vtK) := hD.sub [0, 1] (by decide) rfl
  refine lv_istore (lv' := [(5, .int r_2), (4, .int r_1), (0, .ref aT), (1, .int x1), (2, .int x2), (3, .int x3)]) hx hb dX3_isBarred_22 hl (by decide) rfl (fun ls hl => ?_)
  refine lv_iload hx hb dX3_isBarred_24 (lv_at hl 0 rfl) ?_
  refine lv_aload_n hx hb dX3_isBarred_26 rfl (lv_at hl 2 rfl) ?_
  refine va_get (D := G) (ci := 3) (v := .int vtN) (C := RX3) (T := TX3) (N := 2) hx hb hts (fun _ h => List.mem_cons_of_mem _ (List.mem_append_right _ h)) hown hK hP 0 rfl rfl 0 (by decide) (hts _ (List.mem_of_getElem? (i := 2) rfl)) (fun _ h9 => h9) rfl dX3_isBarred_27 ?_
  refine lv_icmp_ge (tgt := 49) hx hb dX3_isBarred_30 (by decide) (fun c_3 => ?_) (fun c_3 => ?_)
  · replace hw := hw.1 c_3
    refine lv_iconst (v := (0 : Int32)) hx hb dX3_isBarred_49 (by decide) ?_
    exact hret 50 (0 : Int32) () _ _ _ dX3_isBarred_50 rfl hw hP hD hS
  · replace hw := hw.2 c_3
    refine lv_aload_n hx hb dX3_isBarred_33 rfl (lv_at hl 2 rfl) ?_
    refine va_get (D := G) (ci := 3) (v := .ref aK) (C := RX3) (T := TX3) (N := 2) hx hb hts (fun _ h => List.mem_cons_of_mem _ (List.mem_append_right _ h)) hown hK hP 0 rfl rfl 1 (by decide) (hts _ (List.mem_of_getElem? (i := 1) rfl)) (fun _ h9 => h9) rfl dX3_isBarred_34 ?_
    refine lv_iload hx hb dX3_isBarred_37 (lv_at hl 0 rfl) ?_
    have h_4 := hw.1
    replace hw := hw.2
    refine va_iald hx hb hK hP 1 0 rfl rfl h_4 dX3_isBarred_39 ?_
    refine lv_iload hx hb dX3_isBarred_40 (lv_at hl 1 rfl) ?_
    refine lv_icmp_ne (tgt := 49) hx hb dX3_isBarred_42 (by decide) (fun c_5 => ?_) (fun c_5 => ?_)
    · replace hw := hw.1 c_5
      refine lv_iconst (v := (0 : Int32)) hx hb dX3_isBarred_49 (by decide) ?_
      exact hret 50 (0 : Int32) () _ _ _ dX3_isBarred_50 rfl hw hP hD hS
    · replace hw := hw.2 c_5
      refine lv_iconst (v := (1 : Int32)) hx hb dX3_isBarred_45 (by decide) ?_
      refine lv_goto (tgt := 50) hx hb dX3_isBarred_46 (by decide) ?_
      exact hret 50 (1 : Int32) () _ _ _ dX3_isBarred_50 rfl hw hP hD hS
def w_X3_add (N : Nat) (vtN : Int32) (vtK : Nat → Int32) (x1 : Int32) (x2 : Int32) (x3 : Int32) (post : Int32 → (Nat → Int32) → Prop) : Prop :=
  ((vtN < (200 : Int32) → w_X3_key N x1 x2 x3 (fun r_2 => w_X4_placeIn N vtK 200 (0 : Int32) vtN r_2 (fun r_3 => w_X4_insert N vtK 200 vtN r_3 r_2 (fun vtK_5 => post (vtN + (1 : Int32)) vtK_5)))) ∧ (¬ (vtN < (200 : Int32)) → post vtN vtK))
abbrev rm_X3_add : Room := { frames := 2, cells := 0, slots := 0, locals := 63 }
set_option maxHeartbeats 4000000 in
set_option maxRecDepth 100000 in
theorem k_X3_add (l : Launch) (G : va_G) (cI cJ cZ : ClassId) (aT aK : Nat) (sz N : Nat) (vtN : Int32) (vtK : Nat → Int32) (x1 : Int32) (x2 : Int32) (x3 : Int32) (post : Int32 → (Nat → Int32) → Prop) (hw : w_X3_add N vtN vtK x1 x2 x3 post) : Met l yX3_add wsX3_add rm_X3_add (kPc G (tyL cI cJ cZ) [.ref aT, .int x1, .int x2, .int x3] sz (wdT cI cJ cZ aT aK vtN vtK)) (va_Qv (fun (u : Int32 × (Nat → Int32)) => post u.1 u.2) (kB G (tyL cI cJ cZ) (va_A (wdT cI cJ cZ aT aK vtN vtK) sz) (fun (u : Int32 × (Nat → Int32)) => wdT cI cJ cZ aT aK u.1 u.2)) (va_A (wdT cI cJ cZ aT aK vtN vtK) sz)) 0 0 (va_A (wdT cI cJ cZ aT aK vtN vtK) sz) := by
  refine km_v (cc := cX3_add) (maxL := 5) (by decide) rfl (Nat.le_of_ble_eq_true rfl) ?_
  intro p e s m below meth c A Q ls hx hb hml hts hown hnm hK hN hA hP hD hS hl hret
  replace hown : s.vm.findClass RX3 = some m.cls := hown
  replace hl : lv_has ls 5 [(0, .ref aT), (1, .int x1), (2, .int x2), (3, .int x3)] := hl
  unfold w_X3_add at hw
  refine lv_aload_n hx hb dX3_add_0 rfl (lv_at hl 0 rfl) ?_
  refine va_get (D := G) (ci := 3) (v := .int vtN) (C := RX3) (T := TX3) (N := 2) hx hb hts (fun _ h => List.mem_cons_of_mem _ (List.mem_append_right _ h)) hown hK hP 0 rfl rfl 0 (by decide) (hts _ (List.mem_of_getElem? (i := 1) rfl)) (fun _ h9 => h9) rfl dX3_add_1 ?_
  refine lv_aload_n hx hb dX3_add_4 rfl (lv_at hl 0 rfl) ?_
  refine va_get (D := G) (ci := 3) (v := .ref aK) (C := RX3) (T := TX3) (N := 2) hx hb hts (fun _ h => List.mem_cons_of_mem _ (List.mem_append_right _ h)) hown hK hP 0 rfl rfl 1 (by decide) (hts _ (List.mem_of_getElem? (i := 2) rfl)) (fun _ h9 => h9) rfl dX3_add_5 ?_
  refine va_alen (v := (200 : Int32)) hx hb hK hP 1 0 rfl rfl rfl dX3_add_8 ?_
  refine lv_icmp_lt (tgt := 13) hx hb dX3_add_9 (by decide) (fun c_1 => ?_) (fun c_1 => ?_)
  · replace hw := hw.1 c_1
    refine lv_iload_n hx hb dX3_add_13 rfl (lv_at hl 1 rfl) ?_
    refine lv_iload_n hx hb dX3_add_14 rfl (lv_at hl 2 rfl) ?_
    refine lv_iload_n hx hb dX3_add_15 rfl (lv_at hl 3 rfl) ?_
    refine kc_Si (As := [.int x1, .int x2, .int x3]) (rest := []) (wc := []) (wr := [(aT, .inr (3, [.int vtN, .ref aK])), (aK, .inl (cI, 200, .inl vtK))]) ⟨hx, hb, hml, hown, hts⟩ (va_cwS 3 hts gX3_add_X3_key rfl rfl rfl (by decide +kernel) ⟨Nat.le_of_ble_eq_true rfl, Nat.le_of_ble_eq_true rfl⟩) hK hN hA hP hD hS [] [0, 1] rfl rfl (by decide) (by decide) (by decide) (k_X3_key l G cI cJ cZ  _ N  x1 x2 x3 _ hw) rfl hl.1 rfl (Nat.le_of_ble_eq_true rfl) dX3_add_16 ⟨Nat.le_of_ble_eq_true rfl, Nat.le_of_ble_eq_true rfl⟩ (fun r_2 u_ H locs hw hP hD hS => ?_)
    replace hP : va_P G vwCl (wdT cI cJ cZ aT aK vtN vtK) H := hP.sub [0, 1] rfl
    replace hD : va_D A (wdT cI cJ cZ aT aK vtN vtK) := hD.sub [0, 1] (by decide) rfl
    refine lv_istore (lv' := [(4, .int r_2), (0, .ref aT), (1, .int x1), (2, .int x2), (3, .int x3)]) hx hb dX3_add_19 hl (by decide) rfl (fun ls hl => ?_)
    refine lv_aload_n hx hb dX3_add_21 rfl (lv_at hl 1 rfl) ?_
    refine va_get (D := G) (ci := 3) (v := .ref aK) (C := RX3) (T := TX3) (N := 2) hx hb hts (fun _ h => List.mem_cons_of_mem _ (List.mem_append_right _ h)) hown hK hP 0 rfl rfl 1 (by decide) (hts _ (List.mem_of_getElem? (i := 2) rfl)) (fun _ h9 => h9) rfl dX3_add_22 ?_
    refine lv_aload_n hx hb dX3_add_25 rfl (lv_at hl 1 rfl) ?_
    refine va_get (D := G) (ci := 3) (v := .int vtN) (C := RX3) (T := TX3) (N := 2) hx hb hts (fun _ h => List.mem_cons_of_mem _ (List.mem_append_right _ h)) hown hK hP 0 rfl rfl 0 (by decide) (hts _ (List.mem_of_getElem? (i := 1) rfl)) (fun _ h9 => h9) rfl dX3_add_26 ?_
    refine lv_aload_n hx hb dX3_add_29 rfl (lv_at hl 1 rfl) ?_
    refine va_get (D := G) (ci := 3) (v := .ref aK) (C := RX3) (T := TX3) (N := 2) hx hb hts (fun _ h => List.mem_cons_of_mem _ (List.mem_append_right _ h)) hown hK hP 0 rfl rfl 1 (by decide) (hts _ (List.mem_of_getElem? (i := 2) rfl)) (fun _ h9 => h9) rfl dX3_add_30 ?_
    refine lv_iconst (v := (0 : Int32)) hx hb dX3_add_33 (by decide) ?_
    refine lv_aload_n hx hb dX3_add_34 rfl (lv_at hl 1 rfl) ?_
    refine va_get (D := G) (ci := 3) (v := .int vtN) (C := RX3) (T := TX3) (N := 2) hx hb hts (fun _ h => List.mem_cons_of_mem _ (List.mem_append_right _ h)) hown hK hP 0 rfl rfl 0 (by decide) (hts _ (List.mem_of_getElem? (i := 1) rfl)) (fun _ h9 => h9) rfl dX3_add_35 ?_
    refine lv_iload hx hb dX3_add_38 (lv_at hl 0 rfl) ?_
    refine kc_SNi (As := [.ref aK, .int (0 : Int32), .int vtN, .int r_2]) (rest := [.int vtN, .ref aK]) (wc := wdP cI cJ cZ aK 200 vtK) (wr := [(aT, .inr (3, [.int vtN, .ref aK]))]) ⟨hx, hb, hml, hown, hts⟩ ⟨va_cnB 4 hts gX3_add_X4_placeIn_n23 rfl rfl rfl (hN _ (List.mem_of_getElem? (i := 7) rfl)) (hts _ (List.mem_of_getElem? (i := 8) rfl)) (by decide +kernel) ⟨Nat.le_of_ble_eq_true rfl, Nat.le_of_ble_eq_true rfl⟩, hts _ (List.mem_of_getElem? (i := 7) rfl), trivial⟩ hK hN hA hP hD hS [1] [0] rfl rfl (by decide) (by decide) (by decide) (k_X4_placeIn l G cI cJ cZ aK 200 _ N vtK (0 : Int32) vtN r_2 _ hw) rfl hl.1 rfl (Nat.le_of_ble_eq_true rfl) dX3_add_40 ⟨Nat.le_of_ble_eq_true rfl, Nat.le_of_ble_eq_true rfl⟩ (fun r_3 u_ H locs hw hP hD hS => ?_)
    replace hP : va_P G vwCl (wdT cI cJ cZ aT aK vtN vtK) H := hP.sub [0, 1] rfl
    replace hD : va_D A (wdT cI cJ cZ aT aK vtN vtK) := hD.sub [0, 1] (by decide) rfl
    refine lv_iload hx hb dX3_add_43 (lv_at hl 0 rfl) ?_
    refine kc_SNv (As := [.ref aK, .int vtN, .int r_3, .int r_2]) (rest := []) (wc := wdP cI cJ cZ aK 200 vtK) (wr := [(aT, .inr (3, [.int vtN, .ref aK]))]) ⟨hx, hb, hml, hown, hts⟩ ⟨va_cnB 4 hts gX3_add_X4_insert_n27 rfl rfl rfl (hN _ (List.mem_of_getElem? (i := 8) rfl)) (hts _ (List.mem_of_getElem? (i := 8) rfl)) (by decide +kernel) ⟨Nat.le_of_ble_eq_true rfl, Nat.le_of_ble_eq_true rfl⟩, hts _ (List.mem_of_getElem? (i := 10) rfl), trivial⟩ hK hN hA hP hD hS [1] [0] rfl rfl (by decide) (by decide) (by decide) (k_X4_insert l G cI cJ cZ aK 200 _ N vtK vtN r_3 r_2 _ hw) rfl hl.1 rfl (Nat.le_of_ble_eq_true rfl) dX3_add_45 ⟨Nat.le_of_ble_eq_true rfl, Nat.le_of_ble_eq_true rfl⟩ (fun u_ H locs hw hP hD hS => ?_)
    obtain ⟨vtK_5, hu_⟩ : ∃ z, z = u_ := ⟨_, rfl⟩
    subst hu_
    replace hP : va_P G vwCl (wdT cI cJ cZ aT aK vtN vtK_5) H := hP.sub [0, 1] rfl
    replace hD : va_D A (wdT cI cJ cZ aT aK vtN vtK_5) := hD.sub [0, 1] (by decide) rfl
    refine lv_aload_n hx hb dX3_add_48 rfl (lv_at hl 1 rfl) ?_
    refine lv_dup hx hb dX3_add_49 rfl ?_
    refine va_get (D := G) (ci := 3) (v := .int vtN) (C := RX3) (T := TX3) (N := 2) hx hb hts (fun _ h => List.mem_cons_of_mem _ (List.mem_append_right _ h)) hown hK hP 0 rfl rfl 0 (by decide) (hts _ (List.mem_of_getElem? (i := 1) rfl)) (fun _ h9 => h9) rfl dX3_add_50 ?_
    refine lv_iconst (v := (1 : Int32)) hx hb dX3_add_53 (by decide) ?_
    refine lv_iadd hx hb dX3_add_54 ?_
    refine va_put (D := G) (ci := 3) (v := .int (vtN + (1 : Int32))) (ty := .int) (C := RX3) (T := TX3) (N := 2) hx hb hts (fun _ h => List.mem_cons_of_mem _ (List.mem_append_right _ h)) tyX3 tyX3_ok nmX3 hown hK hP hD hS 0 rfl rfl 0 (by decide) (hts _ (List.mem_of_getElem? (i := 1) rfl)) (fun _ h9 => h9) rfl (by decide +kernel) rfl rfl (Nat.le_of_ble_eq_true rfl) dX3_add_55 (fun H locs hP hD hS => ?_)
    replace hP : va_P G vwCl (wdT cI cJ cZ aT aK (vtN + (1 : Int32)) vtK_5) H := hP
    replace hD : va_D A (wdT cI cJ cZ aT aK (vtN + (1 : Int32)) vtK_5) := hD
    exact hret 58 ((vtN + (1 : Int32)), vtK_5) _ _ _ dX3_add_58 hw hP hD hS
  · replace hw := hw.2 c_1
    exact hret 12 (vtN, vtK) _ _ _ dX3_add_12 hw hP hD hS
def w_X3_remove (N : Nat) (vtN : Int32) (vtK : Nat → Int32) (x1 : Int32) (x2 : Int32) (x3 : Int32) (post : Int32 → (Nat → Int32) → Prop) : Prop :=
  w_X3_key N x1 x2 x3 (fun r_1 => w_X4_placeIn N vtK 200 (0 : Int32) vtN r_1 (fun r_2 => ((vtN ≤ r_2 → post vtN vtK) ∧ (¬ (vtN ≤ r_2) → vp_in r_2 200 ∧ (((vtK r_2.toNatClampNeg) = r_1 → cpOK (r_2 + (1 : Int32)) r_2 ((vtN - r_2) - (1 : Int32)) 200 200 ∧ post (vtN - (1 : Int32)) (va_cpy vtK vtK (r_2 + (1 : Int32)).toNatClampNeg r_2.toNatClampNeg ((vtN - r_2) - (1 : Int32)).toNatClampNeg)) ∧ (¬ ((vtK r_2.toNatClampNeg) = r_1) → post vtN vtK))))))
abbrev rm_X3_remove : Room := { frames := 1, cells := 0, slots := 0, locals := 40 }
set_option maxHeartbeats 4000000 in
set_option maxRecDepth 100000 in
theorem k_X3_remove (l : Launch) (G : va_G) (cI cJ cZ : ClassId) (aT aK : Nat) (sz N : Nat) (vtN : Int32) (vtK : Nat → Int32) (x1 : Int32) (x2 : Int32) (x3 : Int32) (post : Int32 → (Nat → Int32) → Prop) (hw : w_X3_remove N vtN vtK x1 x2 x3 post) : Met l yX3_remove wsX3_remove rm_X3_remove (kPc G (tyL cI cJ cZ) [.ref aT, .int x1, .int x2, .int x3] sz (wdT cI cJ cZ aT aK vtN vtK)) (va_Qv (fun (u : Int32 × (Nat → Int32)) => post u.1 u.2) (kB G (tyL cI cJ cZ) (va_A (wdT cI cJ cZ aT aK vtN vtK) sz) (fun (u : Int32 × (Nat → Int32)) => wdT cI cJ cZ aT aK u.1 u.2)) (va_A (wdT cI cJ cZ aT aK vtN vtK) sz)) 0 0 (va_A (wdT cI cJ cZ aT aK vtN vtK) sz) := by
  refine km_v (cc := cX3_remove) (maxL := 6) (by decide) rfl (Nat.le_of_ble_eq_true rfl) ?_
  intro p e s m below meth c A Q ls hx hb hml hts hown hnm hK hN hA hP hD hS hl hret
  replace hown : s.vm.findClass RX3 = some m.cls := hown
  replace hl : lv_has ls 6 [(0, .ref aT), (1, .int x1), (2, .int x2), (3, .int x3)] := hl
  unfold w_X3_remove at hw
  refine lv_iload_n hx hb dX3_remove_0 rfl (lv_at hl 1 rfl) ?_
  refine lv_iload_n hx hb dX3_remove_1 rfl (lv_at hl 2 rfl) ?_
  refine lv_iload_n hx hb dX3_remove_2 rfl (lv_at hl 3 rfl) ?_
  refine kc_Si (As := [.int x1, .int x2, .int x3]) (rest := []) (wc := []) (wr := [(aT, .inr (3, [.int vtN, .ref aK])), (aK, .inl (cI, 200, .inl vtK))]) ⟨hx, hb, hml, hown, hts⟩ (va_cwS 3 hts gX3_remove_X3_key rfl rfl rfl (by decide +kernel) ⟨Nat.le_of_ble_eq_true rfl, Nat.le_of_ble_eq_true rfl⟩) hK hN hA hP hD hS [] [0, 1] rfl rfl (by decide) (by decide) (by decide) (k_X3_key l G cI cJ cZ  _ N  x1 x2 x3 _ hw) rfl hl.1 rfl (Nat.le_of_ble_eq_true rfl) dX3_remove_3 ⟨Nat.le_of_ble_eq_true rfl, Nat.le_of_ble_eq_true rfl⟩ (fun r_1 u_ H locs hw hP hD hS => ?_)
  replace hP : va_P G vwCl (wdT cI cJ cZ aT aK vtN vtK) H := hP.sub [0, 1] rfl
  replace hD : va_D A (wdT cI cJ cZ aT aK vtN vtK) := hD.sub [0, 1] (by decide) rfl
  refine lv_istore (lv' := [(4, .int r_1), (0, .ref aT), (1, .int x1), (2, .int x2), (3, .int x3)]) hx hb dX3_remove_6 hl (by decide) rfl (fun ls hl => ?_)
  refine lv_aload_n hx hb dX3_remove_8 rfl (lv_at hl 1 rfl) ?_
  refine va_get (D := G) (ci := 3) (v := .ref aK) (C := RX3) (T := TX3) (N := 2) hx hb hts (fun _ h => List.mem_cons_of_mem _ (List.mem_append_right _ h)) hown hK hP 0 rfl rfl 1 (by decide) (hts _ (List.mem_of_getElem? (i := 1) rfl)) (fun _ h9 => h9) rfl dX3_remove_9 ?_
  refine lv_iconst (v := (0 : Int32)) hx hb dX3_remove_12 (by decide) ?_
  refine lv_aload_n hx hb dX3_remove_13 rfl (lv_at hl 1 rfl) ?_
  refine va_get (D := G) (ci := 3) (v := .int vtN) (C := RX3) (T := TX3) (N := 2) hx hb hts (fun _ h => List.mem_cons_of_mem _ (List.mem_append_right _ h)) hown hK hP 0 rfl rfl 0 (by decide) (hts _ (List.mem_of_getElem? (i := 2) rfl)) (fun _ h9 => h9) rfl dX3_remove_14 ?_
  refine lv_iload hx hb dX3_remove_17 (lv_at hl 0 rfl) ?_
  refine kc_SNi (As := [.ref aK, .int (0 : Int32), .int vtN, .int r_1]) (rest := []) (wc := wdP cI cJ cZ aK 200 vtK) (wr := [(aT, .inr (3, [.int vtN, .ref aK]))]) ⟨hx, hb, hml, hown, hts⟩ ⟨va_cnB 4 hts gX3_remove_X4_placeIn_n23 rfl rfl rfl (hN _ (List.mem_of_getElem? (i := 7) rfl)) (hts _ (List.mem_of_getElem? (i := 12) rfl)) (by decide +kernel) ⟨Nat.le_of_ble_eq_true rfl, Nat.le_of_ble_eq_true rfl⟩, hts _ (List.mem_of_getElem? (i := 11) rfl), trivial⟩ hK hN hA hP hD hS [1] [0] rfl rfl (by decide) (by decide) (by decide) (k_X4_placeIn l G cI cJ cZ aK 200 _ N vtK (0 : Int32) vtN r_1 _ hw) rfl hl.1 rfl (Nat.le_of_ble_eq_true rfl) dX3_remove_19 ⟨Nat.le_of_ble_eq_true rfl, Nat.le_of_ble_eq_true rfl⟩ (fun r_2 u_ H locs hw hP hD hS => ?_)
  replace hP : va_P G vwCl (wdT cI cJ cZ aT aK vtN vtK) H := hP.sub [0, 1] rfl
  replace hD : va_D A (wdT cI cJ cZ aT aK vtN vtK) := hD.sub [0, 1] (by decide) rfl
  refine lv_istore (lv' := [(5, .int r_2), (4, .int r_1), (0, .ref aT), (1, .int x1), (2, .int x2), (3, .int x3)]) hx hb dX3_remove_22 hl (by decide) rfl (fun ls hl => ?_)
  refine lv_iload hx hb dX3_remove_24 (lv_at hl 0 rfl) ?_
  refine lv_aload_n hx hb dX3_remove_26 rfl (lv_at hl 2 rfl) ?_
  refine va_get (D := G) (ci := 3) (v := .int vtN) (C := RX3) (T := TX3) (N := 2) hx hb hts (fun _ h => List.mem_cons_of_mem _ (List.mem_append_right _ h)) hown hK hP 0 rfl rfl 0 (by decide) (hts _ (List.mem_of_getElem? (i := 2) rfl)) (fun _ h9 => h9) rfl dX3_remove_27 ?_
  refine lv_icmp_ge (tgt := 45) hx hb dX3_remove_30 (by decide) (fun c_3 => ?_) (fun c_3 => ?_)
  · replace hw := hw.1 c_3
    exact hret 45 (vtN, vtK) _ _ _ dX3_remove_45 hw hP hD hS
  · replace hw := hw.2 c_3
    refine lv_aload_n hx hb dX3_remove_33 rfl (lv_at hl 2 rfl) ?_
    refine va_get (D := G) (ci := 3) (v := .ref aK) (C := RX3) (T := TX3) (N := 2) hx hb hts (fun _ h => List.mem_cons_of_mem _ (List.mem_append_right _ h)) hown hK hP 0 rfl rfl 1 (by decide) (hts _ (List.mem_of_getElem? (i := 1) rfl)) (fun _ h9 => h9) rfl dX3_remove_34 ?_
    refine lv_iload hx hb dX3_remove_37 (lv_at hl 0 rfl) ?_
    have h_4 := hw.1
    replace hw := hw.2
    refine va_iald hx hb hK hP 1 0 rfl rfl h_4 dX3_remove_39 ?_
    refine lv_iload hx hb dX3_remove_40 (lv_at hl 1 rfl) ?_
    refine lv_icmp_eq (tgt := 46) hx hb dX3_remove_42 (by decide) (fun c_5 => ?_) (fun c_5 => ?_)
    · replace hw := hw.1 c_5
      refine lv_aload_n hx hb dX3_remove_46 rfl (lv_at hl 2 rfl) ?_
      refine va_get (D := G) (ci := 3) (v := .ref aK) (C := RX3) (T := TX3) (N := 2) hx hb hts (fun _ h => List.mem_cons_of_mem _ (List.mem_append_right _ h)) hown hK hP 0 rfl rfl 1 (by decide) (hts _ (List.mem_of_getElem? (i := 1) rfl)) (fun _ h9 => h9) rfl dX3_remove_47 ?_
      refine lv_iload hx hb dX3_remove_50 (lv_at hl 0 rfl) ?_
      refine lv_iconst (v := (1 : Int32)) hx hb dX3_remove_52 (by decide) ?_
      refine lv_iadd hx hb dX3_remove_53 ?_
      refine lv_aload_n hx hb dX3_remove_54 rfl (lv_at hl 2 rfl) ?_
      refine va_get (D := G) (ci := 3) (v := .ref aK) (C := RX3) (T := TX3) (N := 2) hx hb hts (fun _ h => List.mem_cons_of_mem _ (List.mem_append_right _ h)) hown hK hP 0 rfl rfl 1 (by decide) (hts _ (List.mem_of_getElem? (i := 1) rfl)) (fun _ h9 => h9) rfl dX3_remove_55 ?_
      refine lv_iload hx hb dX3_remove_58 (lv_at hl 0 rfl) ?_
      refine lv_aload_n hx hb dX3_remove_60 rfl (lv_at hl 2 rfl) ?_
      refine va_get (D := G) (ci := 3) (v := .int vtN) (C := RX3) (T := TX3) (N := 2) hx hb hts (fun _ h => List.mem_cons_of_mem _ (List.mem_append_right _ h)) hown hK hP 0 rfl rfl 0 (by decide) (hts _ (List.mem_of_getElem? (i := 2) rfl)) (fun _ h9 => h9) rfl dX3_remove_61 ?_
      refine lv_iload hx hb dX3_remove_64 (lv_at hl 0 rfl) ?_
      refine lv_isub hx hb dX3_remove_66 ?_
      refine lv_iconst (v := (1 : Int32)) hx hb dX3_remove_67 (by decide) ?_
      refine lv_isub hx hb dX3_remove_68 ?_
      have h_6 := hw.1
      replace hw := hw.2
      refine va_copyi hx hb (by rw [hml]; exact hl.1.symm) hown (hts _ (List.mem_of_getElem? (i := 3) rfl)) (hts _ (List.mem_of_getElem? (i := 4) rfl)) (hts _ (List.mem_of_getElem? (i := 5) rfl)) (hts _ (List.mem_of_getElem? (i := 6) rfl)) hK hP hD hS 1 1 0 0 rfl rfl rfl rfl rfl h_6.1.1 h_6.1.2.1 h_6.1.2.2 h_6.2.1 h_6.2.2 (fun _ _ => rfl) (by decide) (by decide +kernel) dX3_remove_69 (fun H locs hP hD hS => ?_)
      replace hP : va_P G vwCl (wdT cI cJ cZ aT aK vtN (va_cpy vtK vtK (r_2 + (1 : Int32)).toNatClampNeg r_2.toNatClampNeg ((vtN - r_2) - (1 : Int32)).toNatClampNeg)) H := hP
      replace hD : va_D A (wdT cI cJ cZ aT aK vtN (va_cpy vtK vtK (r_2 + (1 : Int32)).toNatClampNeg r_2.toNatClampNeg ((vtN - r_2) - (1 : Int32)).toNatClampNeg)) := hD
      refine lv_aload_n hx hb dX3_remove_72 rfl (lv_at hl 2 rfl) ?_
      refine lv_dup hx hb dX3_remove_73 rfl ?_
      refine va_get (D := G) (ci := 3) (v := .int vtN) (C := RX3) (T := TX3) (N := 2) hx hb hts (fun _ h => List.mem_cons_of_mem _ (List.mem_append_right _ h)) hown hK hP 0 rfl rfl 0 (by decide) (hts _ (List.mem_of_getElem? (i := 2) rfl)) (fun _ h9 => h9) rfl dX3_remove_74 ?_
      refine lv_iconst (v := (1 : Int32)) hx hb dX3_remove_77 (by decide) ?_
      refine lv_isub hx hb dX3_remove_78 ?_
      refine va_put (D := G) (ci := 3) (v := .int (vtN - (1 : Int32))) (ty := .int) (C := RX3) (T := TX3) (N := 2) hx hb hts (fun _ h => List.mem_cons_of_mem _ (List.mem_append_right _ h)) tyX3 tyX3_ok nmX3 hown hK hP hD hS 0 rfl rfl 0 (by decide) (hts _ (List.mem_of_getElem? (i := 2) rfl)) (fun _ h9 => h9) rfl (by decide +kernel) rfl rfl (Nat.le_of_ble_eq_true rfl) dX3_remove_79 (fun H locs hP hD hS => ?_)
      replace hP : va_P G vwCl (wdT cI cJ cZ aT aK (vtN - (1 : Int32)) (va_cpy vtK vtK (r_2 + (1 : Int32)).toNatClampNeg r_2.toNatClampNeg ((vtN - r_2) - (1 : Int32)).toNatClampNeg)) H := hP
      replace hD : va_D A (wdT cI cJ cZ aT aK (vtN - (1 : Int32)) (va_cpy vtK vtK (r_2 + (1 : Int32)).toNatClampNeg r_2.toNatClampNeg ((vtN - r_2) - (1 : Int32)).toNatClampNeg)) := hD
      exact hret 82 ((vtN - (1 : Int32)), (va_cpy vtK vtK (r_2 + (1 : Int32)).toNatClampNeg r_2.toNatClampNeg ((vtN - r_2) - (1 : Int32)).toNatClampNeg)) _ _ _ dX3_remove_82 hw hP hD hS
    · replace hw := hw.2 c_5
      exact hret 45 (vtN, vtK) _ _ _ dX3_remove_45 hw hP hD hS
