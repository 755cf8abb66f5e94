def w_X2_mayTurn (N : Nat) (vsB : Int32) (vtN : Int32) (vtK : Nat → Int32) (x1 : Int32) (x2 : Int32) (x3 : Int32) (post : Int32 → Prop) : Prop :=
  ((x1 = (-1 : Int32) → post (1 : Int32)) ∧ (¬ (x1 = (-1 : Int32)) → ((¬ x3 = (-1 : Int32) → ((vsB = (0 : Int32) → w_X3_isBarred N vtN vtK x1 x2 x3 (fun r_4 => ((¬ r_4 = (0 : Int32) → post (0 : Int32)) ∧ (r_4 = (0 : Int32) → post (1 : Int32))))) ∧ (¬ (vsB = (0 : Int32)) → w_X3_isBarred N vtN vtK x3 x2 x1 (fun r_6 => ((¬ r_6 = (0 : Int32) → post (0 : Int32)) ∧ (r_6 = (0 : Int32) → post (1 : Int32))))))) ∧ (x3 = (-1 : Int32) → post (1 : Int32)))))
abbrev rm_X2_mayTurn : Room := { frames := 2, cells := 0, slots := 0, locals := 51 }
set_option maxHeartbeats 4000000 in
set_option maxRecDepth 100000 in
theorem k_X2_mayTurn (l : Launch) (G : va_G) (cI cJ cZ : ClassId) (aS aR aE aC aF aT aK aH aW aA aQ aU : Nat) (sz N : Nat) (vsB : Int32) (vrN : Int32) (vrA : Int32) (vrE : Nat → Int32) (vrC : Nat → Int32) (vrF : Nat → Int32) (vtN : Int32) (vtK : Nat → Int32) (vhN : Int32) (vhW : Nat → Int64) (vhA : Nat → Int32) (vsQ : Nat → Int32) (vsU : Nat → Int32) (x1 : Int32) (x2 : Int32) (x3 : Int32) (post : Int32 → Prop) (hw : w_X2_mayTurn N vsB vtN vtK x1 x2 x3 post) : Met l yX2_mayTurn wsX2_mayTurn rm_X2_mayTurn (kPc G (tyL cI cJ cZ) [.ref aS, .int x1, .int x2, .int x3] sz (wdS cI cJ cZ aS aR aE aC aF aT aK aH aW aA aQ aU vsB vrN vrA vrE vrC vrF vtN vtK vhN vhW vhA vsQ vsU)) (va_Qi (fun (r : Int32) (u : Unit) => post r ) (kB G (tyL cI cJ cZ) (va_A (wdS cI cJ cZ aS aR aE aC aF aT aK aH aW aA aQ aU vsB vrN vrA vrE vrC vrF vtN vtK vhN vhW vhA vsQ vsU) sz) (fun (u : Unit) => wdS cI cJ cZ aS aR aE aC aF aT aK aH aW aA aQ aU vsB vrN vrA vrE vrC vrF vtN vtK vhN vhW vhA vsQ vsU)) (va_A (wdS cI cJ cZ aS aR aE aC aF aT aK aH aW aA aQ aU vsB vrN vrA vrE vrC vrF vtN vtK vhN vhW vhA vsQ vsU) sz)) 0 0 (va_A (wdS cI cJ cZ aS aR aE aC aF aT aK aH aW aA aQ aU vsB vrN vrA vrE vrC vrF vtN vtK vhN vhW vhA vsQ vsU) sz) := by
  refine km_z (cc := cX2_mayTurn) (maxL := 4) (by decide) rfl (Nat.le_of_ble_eq_true rfl) ?_
  intro p e s m below meth c A Q ls hx hb hml hts hown hnm hK hN hA hP hD hS hl hret
  replace hown : s.vm.findClass RX2 = some m.cls := hown
  replace hl : lv_has ls 4 [(0, .ref aS), (1, .int x1), (2, .int x2), (3, .int x3)] := hl
  unfold w_X2_mayTurn at hw
  refine lv_iload_n hx hb dX2_mayTurn_0 rfl (lv_at hl 1 rfl) ?_
  refine lv_iconst (v := (-1 : Int32)) hx hb dX2_mayTurn_1 (by decide) ?_
  refine lv_icmp_eq (tgt := 10) hx hb dX2_mayTurn_2 (by decide) (fun c_1 => ?_) (fun c_1 => ?_)
  · replace hw := hw.1 c_1
    refine lv_iconst (v := (1 : Int32)) hx hb dX2_mayTurn_10 (by decide) ?_
    exact hret 11 (1 : Int32) () _ _ _ dX2_mayTurn_11 rfl hw hP hD hS
  · replace hw := hw.2 c_1
    refine lv_iload_n hx hb dX2_mayTurn_5 rfl (lv_at hl 3 rfl) ?_
    refine lv_iconst (v := (-1 : Int32)) hx hb dX2_mayTurn_6 (by decide) ?_
    refine lv_icmp_ne (tgt := 12) hx hb dX2_mayTurn_7 (by decide) (fun c_2 => ?_) (fun c_2 => ?_)
    · replace hw := hw.1 c_2
      refine lv_aload_n hx hb dX2_mayTurn_12 rfl (lv_at hl 0 rfl) ?_
      refine va_get (D := G) (ci := 2) (v := .int vsB) (C := RX2) (T := TX2) (N := 7) hx hb hts (fun _ h => List.mem_cons_of_mem _ (List.mem_append_left _ (List.mem_append_right _ h))) hown hK hP 0 rfl rfl 6 (by decide) (hts _ (List.mem_of_getElem? (i := 1) rfl)) (fun _ h9 => h9) rfl dX2_mayTurn_13 ?_
      refine lv_if_eq (tgt := 40) hx hb dX2_mayTurn_16 (by decide) (fun c_3 => ?_) (fun c_3 => ?_)
      · replace hw := hw.1 c_3
        refine lv_aload_n hx hb dX2_mayTurn_40 rfl (lv_at hl 0 rfl) ?_
        refine va_get (D := G) (ci := 2) (v := .ref aT) (C := RX2) (T := TX2) (N := 7) hx hb hts (fun _ h => List.mem_cons_of_mem _ (List.mem_append_left _ (List.mem_append_right _ h))) hown hK hP 0 rfl rfl 1 (by decide) (hts _ (List.mem_of_getElem? (i := 2) rfl)) (fun _ h9 => h9) rfl dX2_mayTurn_41 ?_
        refine lv_iload_n hx hb dX2_mayTurn_44 rfl (lv_at hl 1 rfl) ?_
        refine lv_iload_n hx hb dX2_mayTurn_45 rfl (lv_at hl 2 rfl) ?_
        refine lv_iload_n hx hb dX2_mayTurn_46 rfl (lv_at hl 3 rfl) ?_
        refine kc_Vi (As := [.int x1, .int x2, .int x3]) (rest := []) (wc := wdT cI cJ cZ aT aK vtN vtK) (wr := [(aS, .inr (2, [.ref aR, .ref aT, .ref aW, .ref aH, .ref aQ, .ref aU, .int vsB])), (aR, .inr (1, [.int vrN, .int vrA, .ref aE, .ref aC, .ref aF])), (aE, .inl (cI, 4000, .inl vrE)), (aC, .inl (cI, 4000, .inl vrC)), (aF, .inl (cI, 301, .inl vrF)), (aH, .inr (0, [.ref aW, .ref aA, .int vhN])), (aW, .inl (cJ, 4000, .inr (.inl vhW))), (aA, .inl (cI, 4000, .inl vhA)), (aQ, .inl (cI, 4000, .inl vsQ)), (aU, .inl (cI, 300, .inl vsU))]) ⟨hx, hb, hml, hown, hts⟩ (cwV 3 hts gX2_mayTurn_X3_isBarred rfl rfl rfl (by decide +kernel) ⟨Nat.le_of_ble_eq_true rfl, Nat.le_of_ble_eq_true rfl⟩) hK hN hA hP hD hS [5, 6] [0, 1, 2, 3, 4, 7, 8, 9, 10, 11] rfl rfl (by decide) (by decide) (by decide) 0 rfl rfl (k_X3_isBarred l G cI cJ cZ aT aK _ N vtN vtK x1 x2 x3 _ hw) rfl hl.1 rfl (Nat.le_of_ble_eq_true rfl) dX2_mayTurn_47 ⟨Nat.le_of_ble_eq_true rfl, Nat.le_of_ble_eq_true rfl⟩ (fun r_4 u_ H locs hw hP hD hS => ?_)
        replace hP : va_P G vwCl (wdS cI cJ cZ aS aR aE aC aF aT aK aH aW aA aQ aU vsB vrN vrA vrE vrC vrF vtN vtK vhN vhW vhA vsQ vsU) H := hP.sub [0, 1, 2, 3, 4, 10, 11, 5, 6, 7, 8, 9] rfl
        replace hD : va_D A (wdS cI cJ cZ aS aR aE aC aF aT aK aH aW aA aQ aU vsB vrN vrA vrE vrC vrF vtN vtK vhN vhW vhA vsQ vsU) := hD.sub [0, 1, 2, 3, 4, 10, 11, 5, 6, 7, 8, 9] (by decide) rfl
        refine lv_if_ne (tgt := 57) hx hb dX2_mayTurn_50 (by decide) (fun c_5 => ?_) (fun c_5 => ?_)
        · replace hw := hw.1 c_5
          refine lv_iconst (v := (0 : Int32)) hx hb dX2_mayTurn_57 (by decide) ?_
          exact hret 58 (0 : Int32) () _ _ _ dX2_mayTurn_58 rfl hw hP hD hS
        · replace hw := hw.2 c_5
          refine lv_iconst (v := (1 : Int32)) hx hb dX2_mayTurn_53 (by decide) ?_
          refine lv_goto (tgt := 58) hx hb dX2_mayTurn_54 (by decide) ?_
          exact hret 58 (1 : Int32) () _ _ _ dX2_mayTurn_58 rfl hw hP hD hS
      · replace hw := hw.2 c_3
        refine lv_aload_n hx hb dX2_mayTurn_19 rfl (lv_at hl 0 rfl) ?_
        refine va_get (D := G) (ci := 2) (v := .ref aT) (C := RX2) (T := TX2) (N := 7) hx hb hts (fun _ h => List.mem_cons_of_mem _ (List.mem_append_left _ (List.mem_append_right _ h))) hown hK hP 0 rfl rfl 1 (by decide) (hts _ (List.mem_of_getElem? (i := 2) rfl)) (fun _ h9 => h9) rfl dX2_mayTurn_20 ?_
        refine lv_iload_n hx hb dX2_mayTurn_23 rfl (lv_at hl 3 rfl) ?_
        refine lv_iload_n hx hb dX2_mayTurn_24 rfl (lv_at hl 2 rfl) ?_
        refine lv_iload_n hx hb dX2_mayTurn_25 rfl (lv_at hl 1 rfl) ?_
        refine kc_Vi (As := [.int x3, .int x2, .int x1]) (rest := []) (wc := wdT cI cJ cZ aT aK vtN vtK) (wr := [(aS, .inr (2, [.ref aR, .ref aT, .ref aW, .ref aH, .ref aQ, .ref aU, .int vsB])), (aR, .inr (1, [.int vrN, .int vrA, .ref aE, .ref aC, .ref aF])), (aE, .inl (cI, 4000, .inl vrE)), (aC, .inl (cI, 4000, .inl vrC)), (aF, .inl (cI, 301, .inl vrF)), (aH, .inr (0, [.ref aW, .ref aA, .int vhN])), (aW, .inl (cJ, 4000, .inr (.inl vhW))), (aA, .inl (cI, 4000, .inl vhA)), (aQ, .inl (cI, 4000, .inl vsQ)), (aU, .inl (cI, 300, .inl vsU))]) ⟨hx, hb, hml, hown, hts⟩ (cwV 3 hts gX2_mayTurn_X3_isBarred rfl rfl rfl (by decide +kernel) ⟨Nat.le_of_ble_eq_true rfl, Nat.le_of_ble_eq_true rfl⟩) hK hN hA hP hD hS [5, 6] [0, 1, 2, 3, 4, 7, 8, 9, 10, 11] rfl rfl (by decide) (by decide) (by decide) 0 rfl rfl (k_X3_isBarred l G cI cJ cZ aT aK _ N vtN vtK x3 x2 x1 _ hw) rfl hl.1 rfl (Nat.le_of_ble_eq_true rfl) dX2_mayTurn_26 ⟨Nat.le_of_ble_eq_true rfl, Nat.le_of_ble_eq_true rfl⟩ (fun r_6 u_ H locs hw hP hD hS => ?_)
        replace hP : va_P G vwCl (wdS cI cJ cZ aS aR aE aC aF aT aK aH aW aA aQ aU vsB vrN vrA vrE vrC vrF vtN vtK vhN vhW vhA vsQ vsU) H := hP.sub [0, 1, 2, 3, 4, 10, 11, 5, 6, 7, 8, 9] rfl
        replace hD : va_D A (wdS cI cJ cZ aS aR aE aC aF aT aK aH aW aA aQ aU vsB vrN vrA vrE vrC vrF vtN vtK vhN vhW vhA vsQ vsU) := hD.sub [0, 1, 2, 3, 4, 10, 11, 5, 6, 7, 8, 9] (by decide) rfl
        refine lv_if_ne (tgt := 36) hx hb dX2_mayTurn_29 (by decide) (fun c_7 => ?_) (fun c_7 => ?_)
        · replace hw := hw.1 c_7
          refine lv_iconst (v := (0 : Int32)) hx hb dX2_mayTurn_36 (by decide) ?_
          refine lv_goto (tgt := 58) hx hb dX2_mayTurn_37 (by decide) ?_
          exact hret 58 (0 : Int32) () _ _ _ dX2_mayTurn_58 rfl hw hP hD hS
        · replace hw := hw.2 c_7
          refine lv_iconst (v := (1 : Int32)) hx hb dX2_mayTurn_32 (by decide) ?_
          refine lv_goto (tgt := 58) hx hb dX2_mayTurn_33 (by decide) ?_
          exact hret 58 (1 : Int32) () _ _ _ dX2_mayTurn_58 rfl hw hP hD hS
    · replace hw := hw.2 c_2
      refine lv_iconst (v := (1 : Int32)) hx hb dX2_mayTurn_10 (by decide) ?_
      exact hret 11 (1 : Int32) () _ _ _ dX2_mayTurn_11 rfl hw hP hD hS
def w_X2_gatherOpenArcs_b15_B (N : Nat) (vrC : Nat → Int32) (vrF : Nat → Int32) (x1 : Int32) (post : (Nat → Int32) → (Nat → Int32) → Prop) (k15 : (Nat → Int32) → (Nat → Int32) → Int32 → Int32 → Int32 → Prop) (vsQ_b15 : Nat → Int32) (vsU_b15 : Nat → Int32) (x2_b15 : Int32) (x3_b15 : Int32) (x4_b15 : Int32) : Prop :=
  vp_in (x1 + (1 : Int32)) 301 ∧ (((vrF (x1 + (1 : Int32)).toNatClampNeg) ≤ x4_b15 → vp_in x1 300 ∧ post vsQ_b15 (upd vsU_b15 x1.toNatClampNeg x3_b15)) ∧ (¬ ((vrF (x1 + (1 : Int32)).toNatClampNeg) ≤ x4_b15) → w_X1_isOpen N vrC x4_b15 (fun r_7 => ((r_7 = (0 : Int32) → ∀ x4_9 : Int32, x4_9 = x4_b15 + (1 : Int32) → k15 vsQ_b15 vsU_b15 x2_b15 x3_b15 x4_9) ∧ (¬ (r_7 = (0 : Int32)) → vp_in (x2_b15 + x3_b15) 4000 ∧ ∀ x3_12 : Int32, x3_12 = x3_b15 + (1 : Int32) → ∀ x4_14 : Int32, x4_14 = x4_b15 + (1 : Int32) → k15 (upd vsQ_b15 (x2_b15 + x3_b15).toNatClampNeg x4_b15) vsU_b15 x2_b15 x3_12 x4_14)))))
def w_X2_gatherOpenArcs_b15 (N : Nat) (vrC : Nat → Int32) (vrF : Nat → Int32) (x1 : Int32) (post : (Nat → Int32) → (Nat → Int32) → Prop) : Nat → (Nat → Int32) → (Nat → Int32) → Int32 → Int32 → Int32 → Prop
  | 0, _, _, _, _, _ => False
  | n + 1, vsQ_b15, vsU_b15, x2_b15, x3_b15, x4_b15 => w_X2_gatherOpenArcs_b15_B N vrC vrF x1 post (w_X2_gatherOpenArcs_b15 N vrC vrF x1 post n) vsQ_b15 vsU_b15 x2_b15 x3_b15 x4_b15
def w_X2_gatherOpenArcs (N : Nat) (vrC : Nat → Int32) (vrF : Nat → Int32) (vsQ : Nat → Int32) (vsU : Nat → Int32) (x1 : Int32) (post : (Nat → Int32) → (Nat → Int32) → Prop) : Prop :=
  vp_in x1 301 ∧ ∀ x2_2 : Int32, x2_2 = (vrF x1.toNatClampNeg) → w_X2_gatherOpenArcs_b15 N vrC vrF x1 post N vsQ vsU x2_2 (0 : Int32) x2_2
abbrev rm_X2_gatherOpenArcs : Room := { frames := 1, cells := 0, slots := 0, locals := 21 }
set_option maxHeartbeats 4000000 in
set_option maxRecDepth 100000 in
theorem k_X2_gatherOpenArcs (l : Launch) (G : va_G) (cI cJ cZ : ClassId) (aS aR aE aC aF aT aK aH aW aA aQ aU : Nat) (sz N : Nat) (vsB : Int32) (vrN : Int32) (vrA : Int32) (vrE : Nat → Int32) (vrC : Nat → Int32) (vrF : Nat → Int32) (vtN : Int32) (vtK : Nat → Int32) (vhN : Int32) (vhW : Nat → Int64) (vhA : Nat → Int32) (vsQ : Nat → Int32) (vsU : Nat → Int32) (x1 : Int32) (post : (Nat → Int32) → (Nat → Int32) → Prop) (hw : w_X2_gatherOpenArcs N vrC vrF vsQ vsU x1 post) : Met l yX2_gatherOpenArcs wsX2_gatherOpenArcs rm_X2_gatherOpenArcs (kPc G (tyL cI cJ cZ) [.ref aS, .int x1] sz (wdS cI cJ cZ aS aR aE aC aF aT aK aH aW aA aQ aU vsB vrN vrA vrE vrC vrF vtN vtK vhN vhW vhA vsQ vsU)) (va_Qv (fun (u : (Nat → Int32) × (Nat → Int32)) => post u.1 u.2) (kB G (tyL cI cJ cZ) (va_A (wdS cI cJ cZ aS aR aE aC aF aT aK aH aW aA aQ aU vsB vrN vrA vrE vrC vrF vtN vtK vhN vhW vhA vsQ vsU) sz) (fun (u : (Nat → Int32) × (Nat → Int32)) => wdS cI cJ cZ aS aR aE aC aF aT aK aH aW aA aQ aU vsB vrN vrA vrE vrC vrF vtN vtK vhN vhW vhA u.1 u.2)) (va_A (wdS cI cJ cZ aS aR aE aC aF aT aK aH aW aA aQ aU vsB vrN vrA vrE vrC vrF vtN vtK vhN vhW vhA vsQ vsU) sz)) 0 0 (va_A (wdS cI cJ cZ aS aR aE aC aF aT aK aH aW aA aQ aU vsB vrN vrA vrE vrC vrF vtN vtK vhN vhW vhA vsQ vsU) sz) := by
  refine km_v (cc := cX2_gatherOpenArcs) (maxL := 5) (by decide) rfl (Nat.le_of_ble_eq_true rfl) ?_
  intro p e s m below meth c A Q ls hx hb hml hts hown hnm hK hN hA hP hD hS hl hret
  replace hown : s.vm.findClass RX2 = some m.cls := hown
  replace hl : lv_has ls 5 [(0, .ref aS), (1, .int x1)] := hl
  have b15 : ∀ (n15 : Nat) (vsQ_b15 : Nat → Int32) (vsU_b15 : Nat → Int32) (x2_b15 : Int32) (x3_b15 : Int32) (x4_b15 : Int32) (H : Heap) (locs : List Loc) (ls : Array Slot), w_X2_gatherOpenArcs_b15 N vrC vrF x1 post n15 vsQ_b15 vsU_b15 x2_b15 x3_b15 x4_b15 → va_P G vwCl (wdS cI cJ cZ aS aR aE aC aF aT aK aH aW aA aQ aU vsB vrN vrA vrE vrC vrF vtN vtK vhN vhW vhA vsQ_b15 vsU_b15) H → va_D A (wdS cI cJ cZ aS aR aE aC aF aT aK aH aW aA aQ aU vsB vrN vrA vrE vrC vrF vtN vtK vhN vhW vhA vsQ_b15 vsU_b15) → va_S A s.heap H locs → lv_has ls 5 [(0, .ref aS), (1, .int x1), (2, .int x2_b15), (3, .int x3_b15), (4, .int x4_b15)] → W p l e rm_X2_gatherOpenArcs s m ([.ref aS, .int x1] : List Value).toArray below meth c H locs 0 0 Q (F0 m 15 ls []) := by
    intro n15
    induction n15 with
    | zero => intro vsQ_b15 vsU_b15 x2_b15 x3_b15 x4_b15 H locs ls hw; exact hw.elim
    | succ n15 ih15 =>
      intro vsQ_b15 vsU_b15 x2_b15 x3_b15 x4_b15 H locs ls hw hP hD hS hl
      replace hw : w_X2_gatherOpenArcs_b15_B N vrC vrF x1 post (w_X2_gatherOpenArcs_b15 N vrC vrF x1 post n15) vsQ_b15 vsU_b15 x2_b15 x3_b15 x4_b15 := hw
      unfold w_X2_gatherOpenArcs_b15_B at hw
      refine lv_iload hx hb dX2_gatherOpenArcs_15 (lv_at hl 4 rfl) ?_
      refine lv_aload_n hx hb dX2_gatherOpenArcs_17 rfl (lv_at hl 0 rfl) ?_
      refine va_get (D := G) (ci := 2) (v := .ref aR) (C := RX2) (T := TX2) (N := 7) hx hb hts (fun _ h => List.mem_cons_of_mem _ (List.mem_append_left _ (List.mem_append_right _ h))) hown hK hP 0 rfl rfl 0 (by decide) (hts _ (List.mem_of_getElem? (i := 1) rfl)) (fun _ h9 => h9) rfl dX2_gatherOpenArcs_18 ?_
      refine va_getN (D := G) (ci := 1) (v := .ref aF) (C := RX1) (T := TX1) (N := 5) hx hb hts (fun _ h => List.mem_cons_of_mem _ (List.mem_append_right _ h)) hown hK hP 1 rfl rfl 4 (by decide) (va_Nw.use rfl (hN _ (List.mem_of_getElem? (i := 4) rfl))) (fun _ h9 => h9) rfl dX2_gatherOpenArcs_21 ?_
      refine lv_iload_n hx hb dX2_gatherOpenArcs_24 rfl (lv_at hl 1 rfl) ?_
      refine lv_iconst (v := (1 : Int32)) hx hb dX2_gatherOpenArcs_25 (by decide) ?_
      refine lv_iadd hx hb dX2_gatherOpenArcs_26 ?_
      have h_4 := hw.1
      replace hw := hw.2
      refine va_iald hx hb hK hP 4 0 rfl rfl h_4 dX2_gatherOpenArcs_27 ?_
      refine lv_icmp_ge (tgt := 62) hx hb dX2_gatherOpenArcs_28 (by decide) (fun c_5 => ?_) (fun c_5 => ?_)
      · replace hw := hw.1 c_5
        refine lv_aload_n hx hb dX2_gatherOpenArcs_62 rfl (lv_at hl 0 rfl) ?_
        refine va_get (D := G) (ci := 2) (v := .ref aU) (C := RX2) (T := TX2) (N := 7) hx hb hts (fun _ h => List.mem_cons_of_mem _ (List.mem_append_left _ (List.mem_append_right _ h))) hown hK hP 0 rfl rfl 5 (by decide) (hts _ (List.mem_of_getElem? (i := 3) rfl)) (fun _ h9 => h9) rfl dX2_gatherOpenArcs_63 ?_
        refine lv_iload_n hx hb dX2_gatherOpenArcs_66 rfl (lv_at hl 1 rfl) ?_
        refine lv_iload_n hx hb dX2_gatherOpenArcs_67 rfl (lv_at hl 3 rfl) ?_
        have h_6 := hw.1
        replace hw := hw.2
        refine va_iast hx hb hK hP hD hS 11 0 rfl rfl h_6 dX2_gatherOpenArcs_68 (fun H locs hP hD hS => ?_)
        replace hP : va_P G vwCl (wdS cI cJ cZ aS aR aE aC aF aT aK aH aW aA aQ aU vsB vrN vrA vrE vrC vrF vtN vtK vhN vhW vhA vsQ_b15 (upd vsU_b15 x1.toNatClampNeg x3_b15)) H := hP
        replace hD : va_D A (wdS cI cJ cZ aS aR aE aC aF aT aK aH aW aA aQ aU vsB vrN vrA vrE vrC vrF vtN vtK vhN vhW vhA vsQ_b15 (upd vsU_b15 x1.toNatClampNeg x3_b15)) := hD
        exact hret 69 (vsQ_b15, (upd vsU_b15 x1.toNatClampNeg x3_b15)) _ _ _ dX2_gatherOpenArcs_69 hw hP hD hS
      · replace hw := hw.2 c_5
        refine lv_aload_n hx hb dX2_gatherOpenArcs_31 rfl (lv_at hl 0 rfl) ?_
        refine va_get (D := G) (ci := 2) (v := .ref aR) (C := RX2) (T := TX2) (N := 7) hx hb hts (fun _ h => List.mem_cons_of_mem _ (List.mem_append_left _ (List.mem_append_right _ h))) hown hK hP 0 rfl rfl 0 (by decide) (hts _ (List.mem_of_getElem? (i := 1) rfl)) (fun _ h9 => h9) rfl dX2_gatherOpenArcs_32 ?_
        refine lv_iload hx hb dX2_gatherOpenArcs_35 (lv_at hl 4 rfl) ?_
        refine kc_Vi (As := [.int x4_b15]) (rest := []) (wc := wdR cI cJ cZ aR aE aC aF vrN vrA vrE vrC vrF) (wr := [(aS, .inr (2, [.ref aR, .ref aT, .ref aW, .ref aH, .ref aQ, .ref aU, .int vsB])), (aT, .inr (3, [.int vtN, .ref aK])), (aK, .inl (cI, 200, .inl vtK)), (aH, .inr (0, [.ref aW, .ref aA, .int vhN])), (aW, .inl (cJ, 4000, .inr (.inl vhW))), (aA, .inl (cI, 4000, .inl vhA)), (aQ, .inl (cI, 4000, .inl vsQ_b15)), (aU, .inl (cI, 300, .inl vsU_b15))]) ⟨hx, hb, hml, hown, hts⟩ (cwV 1 hts gX2_gatherOpenArcs_X1_isOpen rfl rfl rfl (by decide +kernel) ⟨Nat.le_of_ble_eq_true rfl, Nat.le_of_ble_eq_true rfl⟩) hK hN hA hP hD hS [1, 2, 3, 4] [0, 5, 6, 7, 8, 9, 10, 11] rfl rfl (by decide) (by decide) (by decide) 0 rfl rfl (k_X1_isOpen l G cI cJ cZ aR aE aC aF _ N vrN vrA vrE vrC vrF x4_b15 _ hw) rfl hl.1 rfl (Nat.le_of_ble_eq_true rfl) dX2_gatherOpenArcs_37 ⟨Nat.le_of_ble_eq_true rfl, Nat.le_of_ble_eq_true rfl⟩ (fun r_7 u_ H locs hw hP hD hS => ?_)
        replace hP : va_P G vwCl (wdS cI cJ cZ aS aR aE aC aF aT aK aH aW aA aQ aU vsB vrN vrA vrE vrC vrF vtN vtK vhN vhW vhA vsQ_b15 vsU_b15) H := hP.sub [0, 8, 9, 10, 11, 1, 2, 3, 4, 5, 6, 7] rfl
        replace hD : va_D A (wdS cI cJ cZ aS aR aE aC aF aT aK aH aW aA aQ aU vsB vrN vrA vrE vrC vrF vtN vtK vhN vhW vhA vsQ_b15 vsU_b15) := hD.sub [0, 8, 9, 10, 11, 1, 2, 3, 4, 5, 6, 7] (by decide) rfl
        refine lv_if_eq (tgt := 56) hx hb dX2_gatherOpenArcs_40 (by decide) (fun c_8 => ?_) (fun c_8 => ?_)
        · replace hw := hw.1 c_8
          obtain ⟨x4_9, e_10⟩ : ∃ y : Int32, y = x4_b15 + (1 : Int32) := ⟨_, rfl⟩
          replace hw := hw x4_9 e_10
          refine lv_iinc (v := x4_9) (lv' := [(4, .int x4_9), (0, .ref aS), (1, .int x1), (2, .int x2_b15), (3, .int x3_b15)]) hx hb dX2_gatherOpenArcs_56 hl (k := 4) rfl (by rw [e_10]; rfl) (by decide) rfl (fun ls hl => ?_)
          refine lv_goto (tgt := 15) hx hb dX2_gatherOpenArcs_59 (by decide) ?_
          replace hl : lv_has ls 5 [(0, .ref aS), (1, .int x1), (2, .int x2_b15), (3, .int x3_b15), (4, .int x4_9)] := lv_sub hl [1, 2, 3, 4, 0] rfl
          exact ih15 vsQ_b15 vsU_b15 x2_b15 x3_b15 x4_9 _ _ _ hw hP hD hS hl
        · replace hw := hw.2 c_8
          refine lv_aload_n hx hb dX2_gatherOpenArcs_43 rfl (lv_at hl 0 rfl) ?_
          refine va_get (D := G) (ci := 2) (v := .ref aQ) (C := RX2) (T := TX2) (N := 7) hx hb hts (fun _ h => List.mem_cons_of_mem _ (List.mem_append_left _ (List.mem_append_right _ h))) hown hK hP 0 rfl rfl 4 (by decide) (hts _ (List.mem_of_getElem? (i := 2) rfl)) (fun _ h9 => h9) rfl dX2_gatherOpenArcs_44 ?_
          refine lv_iload_n hx hb dX2_gatherOpenArcs_47 rfl (lv_at hl 2 rfl) ?_
          refine lv_iload_n hx hb dX2_gatherOpenArcs_48 rfl (lv_at hl 3 rfl) ?_
          refine lv_iadd hx hb dX2_gatherOpenArcs_49 ?_
          refine lv_iload hx hb dX2_gatherOpenArcs_50 (lv_at hl 4 rfl) ?_
          have h_11 := hw.1
          replace hw := hw.2
          refine va_iast hx hb hK hP hD hS 10 0 rfl rfl h_11 dX2_gatherOpenArcs_52 (fun H locs hP hD hS => ?_)
          replace hP : va_P G vwCl (wdS cI cJ cZ aS aR aE aC aF aT aK aH aW aA aQ aU vsB vrN vrA vrE vrC vrF vtN vtK vhN vhW vhA (upd vsQ_b15 (x2_b15 + x3_b15).toNatClampNeg x4_b15) vsU_b15) H := hP
          replace hD : va_D A (wdS cI cJ cZ aS aR aE aC aF aT aK aH aW aA aQ aU vsB vrN vrA vrE vrC vrF vtN vtK vhN vhW vhA (upd vsQ_b15 (x2_b15 + x3_b15).toNatClampNeg x4_b15) vsU_b15) := hD
          obtain ⟨x3_12, e_13⟩ : ∃ y : Int32, y = x3_b15 + (1 : Int32) := ⟨_, rfl⟩
          replace hw := hw x3_12 e_13
          refine lv_iinc (v := x3_12) (lv' := [(3, .int x3_12), (0, .ref aS), (1, .int x1), (2, .int x2_b15), (4, .int x4_b15)]) hx hb dX2_gatherOpenArcs_53 hl (k := 3) rfl (by rw [e_13]; rfl) (by decide) rfl (fun ls hl => ?_)
          obtain ⟨x4_14, e_15⟩ : ∃ y : Int32, y = x4_b15 + (1 : Int32) := ⟨_, rfl⟩
          replace hw := hw x4_14 e_15
          refine lv_iinc (v := x4_14) (lv' := [(4, .int x4_14), (3, .int x3_12), (0, .ref aS), (1, .int x1), (2, .int x2_b15)]) hx hb dX2_gatherOpenArcs_56 hl (k := 4) rfl (by rw [e_15]; rfl) (by decide) rfl (fun ls hl => ?_)
          refine lv_goto (tgt := 15) hx hb dX2_gatherOpenArcs_59 (by decide) ?_
          replace hl : lv_has ls 5 [(0, .ref aS), (1, .int x1), (2, .int x2_b15), (3, .int x3_12), (4, .int x4_14)] := lv_sub hl [2, 3, 4, 1, 0] rfl
          exact ih15 (upd vsQ_b15 (x2_b15 + x3_b15).toNatClampNeg x4_b15) vsU_b15 x2_b15 x3_12 x4_14 _ _ _ hw hP hD hS hl
  unfold w_X2_gatherOpenArcs at hw
  refine lv_aload_n hx hb dX2_gatherOpenArcs_0 rfl (lv_at hl 0 rfl) ?_
  refine va_get (D := G) (ci := 2) (v := .ref aR) (C := RX2) (T := TX2) (N := 7) hx hb hts (fun _ h => List.mem_cons_of_mem _ (List.mem_append_left _ (List.mem_append_right _ h))) hown hK hP 0 rfl rfl 0 (by decide) (hts _ (List.mem_of_getElem? (i := 1) rfl)) (fun _ h9 => h9) rfl dX2_gatherOpenArcs_1 ?_
  refine va_getN (D := G) (ci := 1) (v := .ref aF) (C := RX1) (T := TX1) (N := 5) hx hb hts (fun _ h => List.mem_cons_of_mem _ (List.mem_append_right _ h)) hown hK hP 1 rfl rfl 4 (by decide) (va_Nw.use rfl (hN _ (List.mem_of_getElem? (i := 4) rfl))) (fun _ h9 => h9) rfl dX2_gatherOpenArcs_4 ?_
  refine lv_iload_n hx hb dX2_gatherOpenArcs_7 rfl (lv_at hl 1 rfl) ?_
  have h_1 := hw.1
  replace hw := hw.2
  refine va_iald hx hb hK hP 4 0 rfl rfl h_1 dX2_gatherOpenArcs_8 ?_
  refine lv_topi (fun x2_2 e_3 => ?_)
  replace hw := hw x2_2 e_3
  refine lv_istore_n (lv' := [(2, .int x2_2), (0, .ref aS), (1, .int x1)]) hx hb dX2_gatherOpenArcs_9 rfl hl (by decide) rfl (fun ls hl => ?_)
  refine lv_iconst (v := (0 : Int32)) hx hb dX2_gatherOpenArcs_10 (by decide) ?_
  refine lv_istore_n (lv' := [(3, .int (0 : Int32)), (2, .int x2_2), (0, .ref aS), (1, .int x1)]) hx hb dX2_gatherOpenArcs_11 rfl hl (by decide) rfl (fun ls hl => ?_)
  refine lv_iload_n hx hb dX2_gatherOpenArcs_12 rfl (lv_at hl 1 rfl) ?_
  refine lv_istore (lv' := [(4, .int x2_2), (3, .int (0 : Int32)), (2, .int x2_2), (0, .ref aS), (1, .int x1)]) hx hb dX2_gatherOpenArcs_13 hl (by decide) rfl (fun ls hl => ?_)
  replace hl : lv_has ls 5 [(0, .ref aS), (1, .int x1), (2, .int x2_2), (3, .int (0 : Int32)), (4, .int x2_2)] := lv_sub hl [3, 4, 2, 1, 0] rfl
  exact b15 N vsQ vsU x2_2 (0 : Int32) x2_2 _ _ _ hw hP hD hS hl
def w_X2_spread_b32_B (N : Nat) (vsB : Int32) (vrE : Nat → Int32) (vrC : Nat → Int32) (vtN : Int32) (vtK : Nat → Int32) (x1 : Int32) (x2 : Int32) (x3 : Int64) (post : Int32 → (Nat → Int64) → (Nat → Int32) → (Nat → Int32) → (Nat → Int32) → Prop) (k32 : Int32 → (Nat → Int64) → (Nat → Int32) → (Nat → Int32) → (Nat → Int32) → Int32 → Int32 → Int32 → Prop) (vhN_b32 : Int32) (vhW_b32 : Nat → Int64) (vhA_b32 : Nat → Int32) (vsQ_b32 : Nat → Int32) (vsU_b32 : Nat → Int32) (x5_b32 : Int32) (x6_b32 : Int32) (x7_b32 : Int32) : Prop :=
  vp_in x1 300 ∧ (((vsU_b32 x1.toNatClampNeg) ≤ x7_b32 → post vhN_b32 vhW_b32 vhA_b32 vsQ_b32 (upd vsU_b32 x1.toNatClampNeg x6_b32)) ∧ (¬ ((vsU_b32 x1.toNatClampNeg) ≤ x7_b32) → vp_in (x5_b32 + x7_b32) 4000 ∧ ∀ x8_9 : Int32, x8_9 = (vsQ_b32 (x5_b32 + x7_b32).toNatClampNeg) → w_X1_targetOf N vrE x8_9 (fun r_11 => w_X2_mayTurn N vsB vtN vtK x2 x1 r_11 (fun r_12 => ((r_12 = (0 : Int32) → vp_in (x5_b32 + x6_b32) 4000 ∧ ∀ x6_15 : Int32, x6_15 = x6_b32 + (1 : Int32) → ∀ x7_17 : Int32, x7_17 = x7_b32 + (1 : Int32) → k32 vhN_b32 vhW_b32 vhA_b32 (upd vsQ_b32 (x5_b32 + x6_b32).toNatClampNeg x8_9) vsU_b32 x5_b32 x6_15 x7_17) ∧ (¬ (r_12 = (0 : Int32)) → w_X1_weightOf N vrC x8_9 (fun r_19 => vp_in x8_9 4000 ∧ w_X0_add N vhN_b32 (vp_updL vhW_b32 x8_9.toNatClampNeg (x3 + r_19)) vhA_b32 x8_9 (fun vhN_22 vhA_23 => ∀ x7_24 : Int32, x7_24 = x7_b32 + (1 : Int32) → k32 vhN_22 (vp_updL vhW_b32 x8_9.toNatClampNeg (x3 + r_19)) vhA_23 vsQ_b32 vsU_b32 x5_b32 x6_b32 x7_24))))))))
def w_X2_spread_b32 (N : Nat) (vsB : Int32) (vrE : Nat → Int32) (vrC : Nat → Int32) (vtN : Int32) (vtK : Nat → Int32) (x1 : Int32) (x2 : Int32) (x3 : Int64) (post : Int32 → (Nat → Int64) → (Nat → Int32) → (Nat → Int32) → (Nat → Int32) → Prop) : Nat → Int32 → (Nat → Int64) → (Nat → Int32) → (Nat → Int32) → (Nat → Int32) → Int32 → Int32 → Int32 → Prop
  | 0, _, _, _, _, _, _, _, _ => False
  | n + 1, vhN_b32, vhW_b32, vhA_b32, vsQ_b32, vsU_b32, x5_b32, x6_b32, x7_b32 => w_X2_spread_b32_B N vsB vrE vrC vtN vtK x1 x2 x3 post (w_X2_spread_b32 N vsB vrE vrC vtN vtK x1 x2 x3 post n) vhN_b32 vhW_b32 vhA_b32 vsQ_b32 vsU_b32 x5_b32 x6_b32 x7_b32
def w_X2_spread_b15 (N : Nat) (vsB : Int32) (vrE : Nat → Int32) (vrC : Nat → Int32) (vrF : Nat → Int32) (vtN : Int32) (vtK : Nat → Int32) (x1 : Int32) (x2 : Int32) (x3 : Int64) (post : Int32 → (Nat → Int64) → (Nat → Int32) → (Nat → Int32) → (Nat → Int32) → Prop) (vhN_b15 : Int32) (vhW_b15 : Nat → Int64) (vhA_b15 : Nat → Int32) (vsQ_b15 : Nat → Int32) (vsU_b15 : Nat → Int32) : Prop :=
  vp_in x1 301 ∧ ∀ x5_4 : Int32, x5_4 = (vrF x1.toNatClampNeg) → w_X2_spread_b32 N vsB vrE vrC vtN vtK x1 x2 x3 post N vhN_b15 vhW_b15 vhA_b15 vsQ_b15 vsU_b15 x5_4 (0 : Int32) (0 : Int32)
def w_X2_spread (N : Nat) (vsB : Int32) (vrE : Nat → Int32) (vrC : Nat → Int32) (vrF : Nat → Int32) (vtN : Int32) (vtK : Nat → Int32) (vhN : Int32) (vhW : Nat → Int64) (vhA : Nat → Int32) (vsQ : Nat → Int32) (vsU : Nat → Int32) (x1 : Int32) (x2 : Int32) (x3 : Int64) (post : Int32 → (Nat → Int64) → (Nat → Int32) → (Nat → Int32) → (Nat → Int32) → Prop) : Prop :=
  vp_in x1 300 ∧ ((¬ (vsU x1.toNatClampNeg) = (-1 : Int32) → w_X2_spread_b15 N vsB vrE vrC vrF vtN vtK x1 x2 x3 post vhN vhW vhA vsQ vsU) ∧ ((vsU x1.toNatClampNeg) = (-1 : Int32) → w_X2_gatherOpenArcs N vrC vrF vsQ vsU x1 (fun vsQ_27 vsU_28 => w_X2_spread_b15 N vsB vrE vrC vrF vtN vtK x1 x2 x3 post vhN vhW vhA vsQ_27 vsU_28)))
abbrev rm_X2_spread : Room := { frames := 3, cells := 0, slots := 0, locals := 74 }
set_option maxHeartbeats 4000000 in
set_option maxRecDepth 100000 in
theorem k_X2_spread (l : Launch) (G : va_G) (cI cJ cZ : ClassId) (aS aR aE aC aF aT aK aH aW aA aQ aU : Nat) (sz N : Nat) (vsB : Int32) (vrN : Int32) (vrA : Int32) (vrE : Nat → Int32) (vrC : Nat → Int32) (vrF : Nat → Int32) (vtN : Int32) (vtK : Nat → Int32) (vhN : Int32) (vhW : Nat → Int64) (vhA : Nat → Int32) (vsQ : Nat → Int32) (vsU : Nat → Int32) (x1 : Int32) (x2 : Int32) (x3 : Int64) (post : Int32 → (Nat → Int64) → (Nat → Int32) → (Nat → Int32) → (Nat → Int32) → Prop) (hw : w_X2_spread N vsB vrE vrC vrF vtN vtK vhN vhW vhA vsQ vsU x1 x2 x3 post) : Met l yX2_spread wsX2_spread rm_X2_spread (kPc G (tyL cI cJ cZ) [.ref aS, .int x1, .int x2, .long x3] sz (wdS cI cJ cZ aS aR aE aC aF aT aK aH aW aA aQ aU vsB vrN vrA vrE vrC vrF vtN vtK vhN vhW vhA vsQ vsU)) (va_Qv (fun (u : Int32 × (Nat → Int64) × (Nat → Int32) × (Nat → Int32) × (Nat → Int32)) => post u.1 u.2.1 u.2.2.1 u.2.2.2.1 u.2.2.2.2) (kB G (tyL cI cJ cZ) (va_A (wdS cI cJ cZ aS aR aE aC aF aT aK aH aW aA aQ aU vsB vrN vrA vrE vrC vrF vtN vtK vhN vhW vhA vsQ vsU) sz) (fun (u : Int32 × (Nat → Int64) × (Nat → Int32) × (Nat → Int32) × (Nat → Int32)) => wdS cI cJ cZ aS aR aE aC aF aT aK aH aW aA aQ aU vsB vrN vrA vrE vrC vrF vtN vtK u.1 u.2.1 u.2.2.1 u.2.2.2.1 u.2.2.2.2)) (va_A (wdS cI cJ cZ aS aR aE aC aF aT aK aH aW aA aQ aU vsB vrN vrA vrE vrC vrF vtN vtK vhN vhW vhA vsQ vsU) sz)) 0 0 (va_A (wdS cI cJ cZ aS aR aE aC aF aT aK aH aW aA aQ aU vsB vrN vrA vrE vrC vrF vtN vtK vhN vhW vhA vsQ vsU) sz) := by
  refine km_v (cc := cX2_spread) (maxL := 9) (by decide) rfl (Nat.le_of_ble_eq_true rfl) ?_
  intro p e s m below meth c A Q ls hx hb hml hts hown hnm hK hN hA hP hD hS hl hret
  replace hown : s.vm.findClass RX2 = some m.cls := hown
  replace hl : lv_has ls 9 [(0, .ref aS), (1, .int x1), (2, .int x2), (3, .long x3)] := hl
  have b32 : ∀ (n32 : Nat) (vhN_b32 : Int32) (vhW_b32 : Nat → Int64) (vhA_b32 : Nat → Int32) (vsQ_b32 : Nat → Int32) (vsU_b32 : Nat → Int32) (x5_b32 : Int32) (x6_b32 : Int32) (x7_b32 : Int32) (H : Heap) (locs : List Loc) (ls : Array Slot), w_X2_spread_b32 N vsB vrE vrC vtN vtK x1 x2 x3 post n32 vhN_b32 vhW_b32 vhA_b32 vsQ_b32 vsU_b32 x5_b32 x6_b32 x7_b32 → va_P G vwCl (wdS cI cJ cZ aS aR aE aC aF aT aK aH aW aA aQ aU vsB vrN vrA vrE vrC vrF vtN vtK vhN_b32 vhW_b32 vhA_b32 vsQ_b32 vsU_b32) H → va_D A (wdS cI cJ cZ aS aR aE aC aF aT aK aH aW aA aQ aU vsB vrN vrA vrE vrC vrF vtN vtK vhN_b32 vhW_b32 vhA_b32 vsQ_b32 vsU_b32) → va_S A s.heap H locs → lv_has ls 9 [(0, .ref aS), (1, .int x1), (2, .int x2), (3, .long x3), (5, .int x5_b32), (6, .int x6_b32), (7, .int x7_b32)] → W p l e rm_X2_spread s m ([.ref aS, .int x1, .int x2, .long x3] : List Value).toArray below meth c H locs 0 0 Q (F0 m 32 ls []) := by
    intro n32
    induction n32 with
    | zero => intro vhN_b32 vhW_b32 vhA_b32 vsQ_b32 vsU_b32 x5_b32 x6_b32 x7_b32 H locs ls hw; exact hw.elim
    | succ n32 ih32 =>
      intro vhN_b32 vhW_b32 vhA_b32 vsQ_b32 vsU_b32 x5_b32 x6_b32 x7_b32 H locs ls hw hP hD hS hl
      replace hw : w_X2_spread_b32_B N vsB vrE vrC vtN vtK x1 x2 x3 post (w_X2_spread_b32 N vsB vrE vrC vtN vtK x1 x2 x3 post n32) vhN_b32 vhW_b32 vhA_b32 vsQ_b32 vsU_b32 x5_b32 x6_b32 x7_b32 := hw
      unfold w_X2_spread_b32_B at hw
      refine lv_iload hx hb dX2_spread_32 (lv_at hl 6 rfl) ?_
      refine lv_aload_n hx hb dX2_spread_34 rfl (lv_at hl 0 rfl) ?_
      refine va_get (D := G) (ci := 2) (v := .ref aU) (C := RX2) (T := TX2) (N := 7) hx hb hts (fun _ h => List.mem_cons_of_mem _ (List.mem_append_left _ (List.mem_append_left _ (List.mem_append_left _ (List.mem_append_right _ h))))) hown hK hP 0 rfl rfl 5 (by decide) (hts _ (List.mem_of_getElem? (i := 1) rfl)) (fun _ h9 => h9) rfl dX2_spread_35 ?_
      refine lv_iload_n hx hb dX2_spread_38 rfl (lv_at hl 1 rfl) ?_
      have h_6 := hw.1
      replace hw := hw.2
      refine va_iald hx hb hK hP 11 0 rfl rfl h_6 dX2_spread_39 ?_
      refine lv_icmp_ge (tgt := 124) hx hb dX2_spread_40 (by decide) (fun c_7 => ?_) (fun c_7 => ?_)
      · replace hw := hw.1 c_7
        refine lv_aload_n hx hb dX2_spread_124 rfl (lv_at hl 0 rfl) ?_
        refine va_get (D := G) (ci := 2) (v := .ref aU) (C := RX2) (T := TX2) (N := 7) hx hb hts (fun _ h => List.mem_cons_of_mem _ (List.mem_append_left _ (List.mem_append_left _ (List.mem_append_left _ (List.mem_append_right _ h))))) hown hK hP 0 rfl rfl 5 (by decide) (hts _ (List.mem_of_getElem? (i := 1) rfl)) (fun _ h9 => h9) rfl dX2_spread_125 ?_
        refine lv_iload_n hx hb dX2_spread_128 rfl (lv_at hl 1 rfl) ?_
        refine lv_iload hx hb dX2_spread_129 (lv_at hl 5 rfl) ?_
        refine va_iast hx hb hK hP hD hS 11 0 rfl rfl h_6 dX2_spread_131 (fun H locs hP hD hS => ?_)
        replace hP : va_P G vwCl (wdS cI cJ cZ aS aR aE aC aF aT aK aH aW aA aQ aU vsB vrN vrA vrE vrC vrF vtN vtK vhN_b32 vhW_b32 vhA_b32 vsQ_b32 (upd vsU_b32 x1.toNatClampNeg x6_b32)) H := hP
        replace hD : va_D A (wdS cI cJ cZ aS aR aE aC aF aT aK aH aW aA aQ aU vsB vrN vrA vrE vrC vrF vtN vtK vhN_b32 vhW_b32 vhA_b32 vsQ_b32 (upd vsU_b32 x1.toNatClampNeg x6_b32)) := hD
        exact hret 132 (vhN_b32, vhW_b32, vhA_b32, vsQ_b32, (upd vsU_b32 x1.toNatClampNeg x6_b32)) _ _ _ dX2_spread_132 hw hP hD hS
      · replace hw := hw.2 c_7
        refine lv_aload_n hx hb dX2_spread_43 rfl (lv_at hl 0 rfl) ?_
        refine va_get (D := G) (ci := 2) (v := .ref aQ) (C := RX2) (T := TX2) (N := 7) hx hb hts (fun _ h => List.mem_cons_of_mem _ (List.mem_append_left _ (List.mem_append_left _ (List.mem_append_left _ (List.mem_append_right _ h))))) hown hK hP 0 rfl rfl 4 (by decide) (hts _ (List.mem_of_getElem? (i := 3) rfl)) (fun _ h9 => h9) rfl dX2_spread_44 ?_
        refine lv_iload hx hb dX2_spread_47 (lv_at hl 4 rfl) ?_
        refine lv_iload hx hb dX2_spread_49 (lv_at hl 6 rfl) ?_
        refine lv_iadd hx hb dX2_spread_51 ?_
        have h_8 := hw.1
        replace hw := hw.2
        refine va_iald hx hb hK hP 10 0 rfl rfl h_8 dX2_spread_52 ?_
        refine lv_topi (fun x8_9 e_10 => ?_)
        replace hw := hw x8_9 e_10
        refine lv_istore (lv' := [(8, .int x8_9), (0, .ref aS), (1, .int x1), (2, .int x2), (3, .long x3), (5, .int x5_b32), (6, .int x6_b32), (7, .int x7_b32)]) hx hb dX2_spread_53 hl (by decide) rfl (fun ls hl => ?_)
        refine lv_aload_n hx hb dX2_spread_55 rfl (lv_at hl 1 rfl) ?_
        refine lv_iload_n hx hb dX2_spread_56 rfl (lv_at hl 3 rfl) ?_
        refine lv_iload_n hx hb dX2_spread_57 rfl (lv_at hl 2 rfl) ?_
        refine lv_aload_n hx hb dX2_spread_58 rfl (lv_at hl 1 rfl) ?_
        refine va_get (D := G) (ci := 2) (v := .ref aR) (C := RX2) (T := TX2) (N := 7) hx hb hts (fun _ h => List.mem_cons_of_mem _ (List.mem_append_left _ (List.mem_append_left _ (List.mem_append_left _ (List.mem_append_right _ h))))) hown hK hP 0 rfl rfl 0 (by decide) (hts _ (List.mem_of_getElem? (i := 2) rfl)) (fun _ h9 => h9) rfl dX2_spread_59 ?_
        refine lv_iload hx hb dX2_spread_62 (lv_at hl 0 rfl) ?_
        refine kc_Vi (As := [.int x8_9]) (rest := [.int x1, .int x2, .ref aS]) (wc := wdR cI cJ cZ aR aE aC aF vrN vrA vrE vrC vrF) (wr := [(aS, .inr (2, [.ref aR, .ref aT, .ref aW, .ref aH, .ref aQ, .ref aU, .int vsB])), (aT, .inr (3, [.int vtN, .ref aK])), (aK, .inl (cI, 200, .inl vtK)), (aH, .inr (0, [.ref aW, .ref aA, .int vhN_b32])), (aW, .inl (cJ, 4000, .inr (.inl vhW_b32))), (aA, .inl (cI, 4000, .inl vhA_b32)), (aQ, .inl (cI, 4000, .inl vsQ_b32)), (aU, .inl (cI, 300, .inl vsU_b32))]) ⟨hx, hb, hml, hown, hts⟩ (cwV 1 hts gX2_spread_X1_targetOf rfl rfl rfl (by decide +kernel) ⟨Nat.le_of_ble_eq_true rfl, Nat.le_of_ble_eq_true rfl⟩) hK hN hA hP hD hS [1, 2, 3, 4] [0, 5, 6, 7, 8, 9, 10, 11] rfl rfl (by decide) (by decide) (by decide) 0 rfl rfl (k_X1_targetOf l G cI cJ cZ aR aE aC aF _ N vrN vrA vrE vrC vrF x8_9 _ hw) rfl hl.1 rfl (Nat.le_of_ble_eq_true rfl) dX2_spread_64 ⟨Nat.le_of_ble_eq_true rfl, Nat.le_of_ble_eq_true rfl⟩ (fun r_11 u_ H locs hw hP hD hS => ?_)
        replace hP : va_P G vwCl (wdS cI cJ cZ aS aR aE aC aF aT aK aH aW aA aQ aU vsB vrN vrA vrE vrC vrF vtN vtK vhN_b32 vhW_b32 vhA_b32 vsQ_b32 vsU_b32) H := hP.sub [0, 8, 9, 10, 11, 1, 2, 3, 4, 5, 6, 7] rfl
        replace hD : va_D A (wdS cI cJ cZ aS aR aE aC aF aT aK aH aW aA aQ aU vsB vrN vrA vrE vrC vrF vtN vtK vhN_b32 vhW_b32 vhA_b32 vsQ_b32 vsU_b32) := hD.sub [0, 8, 9, 10, 11, 1, 2, 3, 4, 5, 6, 7] (by decide) rfl
        refine kc_Vi (As := [.int x2, .int x1, .int r_11]) (rest := []) (wc := wdS cI cJ cZ aS aR aE aC aF aT aK aH aW aA aQ aU vsB vrN vrA vrE vrC vrF vtN vtK vhN_b32 vhW_b32 vhA_b32 vsQ_b32 vsU_b32) (wr := []) ⟨hx, hb, hml, hown, hts⟩ (cwV 3 hts gX2_spread_X2_mayTurn rfl rfl rfl (by decide +kernel) ⟨Nat.le_of_ble_eq_true rfl, Nat.le_of_ble_eq_true rfl⟩) hK hN hA hP hD hS [0, 1, 2, 3, 4, 5, 6, 7, 8, 9, 10, 11] [] rfl rfl (by decide) (by decide) (by decide) 0 rfl rfl (k_X2_mayTurn l G cI cJ cZ aS aR aE aC aF aT aK aH aW aA aQ aU _ N vsB vrN vrA vrE vrC vrF vtN vtK vhN_b32 vhW_b32 vhA_b32 vsQ_b32 vsU_b32 x2 x1 r_11 _ hw) rfl hl.1 rfl (Nat.le_of_ble_eq_true rfl) dX2_spread_67 ⟨Nat.le_of_ble_eq_true rfl, Nat.le_of_ble_eq_true rfl⟩ (fun r_12 u_ H locs hw hP hD hS => ?_)
        replace hP : va_P G vwCl (wdS cI cJ cZ aS aR aE aC aF aT aK aH aW aA aQ aU vsB vrN vrA vrE vrC vrF vtN vtK vhN_b32 vhW_b32 vhA_b32 vsQ_b32 vsU_b32) H := hP.sub [0, 1, 2, 3, 4, 5, 6, 7, 8, 9, 10, 11] rfl
        replace hD : va_D A (wdS cI cJ cZ aS aR aE aC aF aT aK aH aW aA aQ aU vsB vrN vrA vrE vrC vrF vtN vtK vhN_b32 vhW_b32 vhA_b32 vsQ_b32 vsU_b32) := hD.sub [0, 1, 2, 3, 4, 5, 6, 7, 8, 9, 10, 11] (by decide) rfl
        refine lv_if_eq (tgt := 103) hx hb dX2_spread_70 (by decide) (fun c_13 => ?_) (fun c_13 => ?_)
        · replace hw := hw.1 c_13
          refine lv_aload_n hx hb dX2_spread_103 rfl (lv_at hl 1 rfl) ?_
          refine va_get (D := G) (ci := 2) (v := .ref aQ) (C := RX2) (T := TX2) (N := 7) hx hb hts (fun _ h => List.mem_cons_of_mem _ (List.mem_append_left _ (List.mem_append_left _ (List.mem_append_left _ (List.mem_append_right _ h))))) hown hK hP 0 rfl rfl 4 (by decide) (hts _ (List.mem_of_getElem? (i := 3) rfl)) (fun _ h9 => h9) rfl dX2_spread_104 ?_
          refine lv_iload hx hb dX2_spread_107 (lv_at hl 5 rfl) ?_
          refine lv_iload hx hb dX2_spread_109 (lv_at hl 6 rfl) ?_
          refine lv_iadd hx hb dX2_spread_111 ?_
          refine lv_iload hx hb dX2_spread_112 (lv_at hl 0 rfl) ?_
          have h_14 := hw.1
          replace hw := hw.2
          refine va_iast hx hb hK hP hD hS 10 0 rfl rfl h_14 dX2_spread_114 (fun H locs hP hD hS => ?_)
          replace hP : va_P G vwCl (wdS cI cJ cZ aS aR aE aC aF aT aK aH aW aA aQ aU vsB vrN vrA vrE vrC vrF vtN vtK vhN_b32 vhW_b32 vhA_b32 (upd vsQ_b32 (x5_b32 + x6_b32).toNatClampNeg x8_9) vsU_b32) H := hP
          replace hD : va_D A (wdS cI cJ cZ aS aR aE aC aF aT aK aH aW aA aQ aU vsB vrN vrA vrE vrC vrF vtN vtK vhN_b32 vhW_b32 vhA_b32 (upd vsQ_b32 (x5_b32 + x6_b32).toNatClampNeg x8_9) vsU_b32) := hD
          obtain ⟨x6_15, e_16⟩ : ∃ y : Int32, y = x6_b32 + (1 : Int32) := ⟨_, rfl⟩
          replace hw := hw x6_15 e_16
          refine lv_iinc (v := x6_15) (lv' := [(6, .int x6_15), (8, .int x8_9), (0, .ref aS), (1, .int x1), (2, .int x2), (3, .long x3), (5, .int x5_b32), (7, .int x7_b32)]) hx hb dX2_spread_115 hl (k := 6) rfl (by rw [e_16]; rfl) (by decide) rfl (fun ls hl => ?_)
          obtain ⟨x7_17, e_18⟩ : ∃ y : Int32, y = x7_b32 + (1 : Int32) := ⟨_, rfl⟩
          replace hw := hw x7_17 e_18
          refine lv_iinc (v := x7_17) (lv' := [(7, .int x7_17), (6, .int x6_15), (8, .int x8_9), (0, .ref aS), (1, .int x1), (2, .int x2), (3, .long x3), (5, .int x5_b32)]) hx hb dX2_spread_118 hl (k := 7) rfl (by rw [e_18]; rfl) (by decide) rfl (fun ls hl => ?_)
          refine lv_goto (tgt := 32) hx hb dX2_spread_121 (by decide) ?_
          replace hl : lv_has ls 9 [(0, .ref aS), (1, .int x1), (2, .int x2), (3, .long x3), (5, .int x5_b32), (6, .int x6_15), (7, .int x7_17)] := lv_sub hl [3, 4, 5, 6, 7, 1, 0] rfl
          exact ih32 vhN_b32 vhW_b32 vhA_b32 (upd vsQ_b32 (x5_b32 + x6_b32).toNatClampNeg x8_9) vsU_b32 x5_b32 x6_15 x7_17 _ _ _ hw hP hD hS hl
        · replace hw := hw.2 c_13
          refine lv_aload_n hx hb dX2_spread_73 rfl (lv_at hl 1 rfl) ?_
          refine va_get (D := G) (ci := 2) (v := .ref aW) (C := RX2) (T := TX2) (N := 7) hx hb hts (fun _ h => List.mem_cons_of_mem _ (List.mem_append_left _ (List.mem_append_left _ (List.mem_append_left _ (List.mem_append_right _ h))))) hown hK hP 0 rfl rfl 2 (by decide) (hts _ (List.mem_of_getElem? (i := 4) rfl)) (fun _ h9 => h9) rfl dX2_spread_74 ?_
          refine lv_iload hx hb dX2_spread_77 (lv_at hl 0 rfl) ?_
          refine lv_lload_n hx hb dX2_spread_79 rfl (lv_at hl 4 rfl) ?_
          refine lv_aload_n hx hb dX2_spread_80 rfl (lv_at hl 1 rfl) ?_
          refine va_get (D := G) (ci := 2) (v := .ref aR) (C := RX2) (T := TX2) (N := 7) hx hb hts (fun _ h => List.mem_cons_of_mem _ (List.mem_append_left _ (List.mem_append_left _ (List.mem_append_left _ (List.mem_append_right _ h))))) hown hK hP 0 rfl rfl 0 (by decide) (hts _ (List.mem_of_getElem? (i := 2) rfl)) (fun _ h9 => h9) rfl dX2_spread_81 ?_
          refine lv_iload hx hb dX2_spread_84 (lv_at hl 0 rfl) ?_
          refine kc_Vl (As := [.int x8_9]) (rest := [.long x3, .int x8_9, .ref aW]) (wc := wdR cI cJ cZ aR aE aC aF vrN vrA vrE vrC vrF) (wr := [(aS, .inr (2, [.ref aR, .ref aT, .ref aW, .ref aH, .ref aQ, .ref aU, .int vsB])), (aT, .inr (3, [.int vtN, .ref aK])), (aK, .inl (cI, 200, .inl vtK)), (aH, .inr (0, [.ref aW, .ref aA, .int vhN_b32])), (aW, .inl (cJ, 4000, .inr (.inl vhW_b32))), (aA, .inl (cI, 4000, .inl vhA_b32)), (aQ, .inl (cI, 4000, .inl vsQ_b32)), (aU, .inl (cI, 300, .inl vsU_b32))]) ⟨hx, hb, hml, hown, hts⟩ (cwV 1 hts gX2_spread_X1_weightOf rfl rfl rfl (by decide +kernel) ⟨Nat.le_of_ble_eq_true rfl, Nat.le_of_ble_eq_true rfl⟩) hK hN hA hP hD hS [1, 2, 3, 4] [0, 5, 6, 7, 8, 9, 10, 11] rfl rfl (by decide) (by decide) (by decide) 0 rfl rfl (k_X1_weightOf l G cI cJ cZ aR aE aC aF _ N vrN vrA vrE vrC vrF x8_9 _ hw) rfl hl.1 rfl (Nat.le_of_ble_eq_true rfl) dX2_spread_86 ⟨Nat.le_of_ble_eq_true rfl, Nat.le_of_ble_eq_true rfl⟩ (fun r_19 u_ H locs hw hP hD hS => ?_)
          replace hP : va_P G vwCl (wdS cI cJ cZ aS aR aE aC aF aT aK aH aW aA aQ aU vsB vrN vrA vrE vrC vrF vtN vtK vhN_b32 vhW_b32 vhA_b32 vsQ_b32 vsU_b32) H := hP.sub [0, 8, 9, 10, 11, 1, 2, 3, 4, 5, 6, 7] rfl
          replace hD : va_D A (wdS cI cJ cZ aS aR aE aC aF aT aK aH aW aA aQ aU vsB vrN vrA vrE vrC vrF vtN vtK vhN_b32 vhW_b32 vhA_b32 vsQ_b32 vsU_b32) := hD.sub [0, 8, 9, 10, 11, 1, 2, 3, 4, 5, 6, 7] (by decide) rfl
          refine lv_ladd hx hb dX2_spread_89 ?_
          have h_20 := hw.1
          replace hw := hw.2
          refine va_last hx hb hK hP hD hS 8 1 rfl rfl h_20 dX2_spread_90 (fun H locs hP hD hS => ?_)
          replace hP : va_P G vwCl (wdS cI cJ cZ aS aR aE aC aF aT aK aH aW aA aQ aU vsB vrN vrA vrE vrC vrF vtN vtK vhN_b32 (vp_updL vhW_b32 x8_9.toNatClampNeg (x3 + r_19)) vhA_b32 vsQ_b32 vsU_b32) H := hP
          replace hD : va_D A (wdS cI cJ cZ aS aR aE aC aF aT aK aH aW aA aQ aU vsB vrN vrA vrE vrC vrF vtN vtK vhN_b32 (vp_updL vhW_b32 x8_9.toNatClampNeg (x3 + r_19)) vhA_b32 vsQ_b32 vsU_b32) := hD
          refine lv_aload_n hx hb dX2_spread_91 rfl (lv_at hl 1 rfl) ?_
          refine va_get (D := G) (ci := 2) (v := .ref aH) (C := RX2) (T := TX2) (N := 7) hx hb hts (fun _ h => List.mem_cons_of_mem _ (List.mem_append_left _ (List.mem_append_left _ (List.mem_append_left _ (List.mem_append_right _ h))))) hown hK hP 0 rfl rfl 3 (by decide) (hts _ (List.mem_of_getElem? (i := 5) rfl)) (fun _ h9 => h9) rfl dX2_spread_92 ?_
          refine lv_iload hx hb dX2_spread_95 (lv_at hl 0 rfl) ?_
          refine kc_Vv (As := [.int x8_9]) (rest := []) (wc := wdH cI cJ cZ aH aW aA vhN_b32 (vp_updL vhW_b32 x8_9.toNatClampNeg (x3 + r_19)) vhA_b32) (wr := [(aS, .inr (2, [.ref aR, .ref aT, .ref aW, .ref aH, .ref aQ, .ref aU, .int vsB])), (aR, .inr (1, [.int vrN, .int vrA, .ref aE, .ref aC, .ref aF])), (aE, .inl (cI, 4000, .inl vrE)), (aC, .inl (cI, 4000, .inl vrC)), (aF, .inl (cI, 301, .inl vrF)), (aT, .inr (3, [.int vtN, .ref aK])), (aK, .inl (cI, 200, .inl vtK)), (aQ, .inl (cI, 4000, .inl vsQ_b32)), (aU, .inl (cI, 300, .inl vsU_b32))]) ⟨hx, hb, hml, hown, hts⟩ (cwV 1 hts gX2_spread_X0_add rfl rfl rfl (by decide +kernel) ⟨Nat.le_of_ble_eq_true rfl, Nat.le_of_ble_eq_true rfl⟩) hK hN hA hP hD hS [7, 8, 9] [0, 1, 2, 3, 4, 5, 6, 10, 11] rfl rfl (by decide) (by decide) (by decide) 0 rfl rfl (k_X0_add l G cI cJ cZ aH aW aA _ N vhN_b32 (vp_updL vhW_b32 x8_9.toNatClampNeg (x3 + r_19)) vhA_b32 x8_9 _ hw) rfl hl.1 rfl (Nat.le_of_ble_eq_true rfl) dX2_spread_97 ⟨Nat.le_of_ble_eq_true rfl, Nat.le_of_ble_eq_true rfl⟩ (fun u_ H locs hw hP hD hS => ?_)
          obtain ⟨vhN_22, vhA_23⟩ := u_
          replace hP : va_P G vwCl (wdS cI cJ cZ aS aR aE aC aF aT aK aH aW aA aQ aU vsB vrN vrA vrE vrC vrF vtN vtK vhN_22 (vp_updL vhW_b32 x8_9.toNatClampNeg (x3 + r_19)) vhA_23 vsQ_b32 vsU_b32) H := hP.sub [0, 1, 2, 3, 4, 5, 6, 9, 10, 11, 7, 8] rfl
          replace hD : va_D A (wdS cI cJ cZ aS aR aE aC aF aT aK aH aW aA aQ aU vsB vrN vrA vrE vrC vrF vtN vtK vhN_22 (vp_updL vhW_b32 x8_9.toNatClampNeg (x3 + r_19)) vhA_23 vsQ_b32 vsU_b32) := hD.sub [0, 1, 2, 3, 4, 5, 6, 9, 10, 11, 7, 8] (by decide) rfl
          refine lv_goto (tgt := 118) hx hb dX2_spread_100 (by decide) ?_
          obtain ⟨x7_24, e_25⟩ : ∃ y : Int32, y = x7_b32 + (1 : Int32) := ⟨_, rfl⟩
          replace hw := hw x7_24 e_25
          refine lv_iinc (v := x7_24) (lv' := [(7, .int x7_24), (8, .int x8_9), (0, .ref aS), (1, .int x1), (2, .int x2), (3, .long x3), (5, .int x5_b32), (6, .int x6_b32)]) hx hb dX2_spread_118 hl (k := 7) rfl (by rw [e_25]; rfl) (by decide) rfl (fun ls hl => ?_)
          refine lv_goto (tgt := 32) hx hb dX2_spread_121 (by decide) ?_
          replace hl : lv_has ls 9 [(0, .ref aS), (1, .int x1), (2, .int x2), (3, .long x3), (5, .int x5_b32), (6, .int x6_b32), (7, .int x7_24)] := lv_sub hl [2, 3, 4, 5, 6, 7, 0] rfl
          exact ih32 vhN_22 (vp_updL vhW_b32 x8_9.toNatClampNeg (x3 + r_19)) vhA_23 vsQ_b32 vsU_b32 x5_b32 x6_b32 x7_24 _ _ _ hw hP hD hS hl
  have b15 : ∀ (vhN_b15 : Int32) (vhW_b15 : Nat → Int64) (vhA_b15 : Nat → Int32) (vsQ_b15 : Nat → Int32) (vsU_b15 : Nat → Int32) (H : Heap) (locs : List Loc) (ls : Array Slot), w_X2_spread_b15 N vsB vrE vrC vrF vtN vtK x1 x2 x3 post vhN_b15 vhW_b15 vhA_b15 vsQ_b15 vsU_b15 → va_P G vwCl (wdS cI cJ cZ aS aR aE aC aF aT aK aH aW aA aQ aU vsB vrN vrA vrE vrC vrF vtN vtK vhN_b15 vhW_b15 vhA_b15 vsQ_b15 vsU_b15) H → va_D A (wdS cI cJ cZ aS aR aE aC aF aT aK aH aW aA aQ aU vsB vrN vrA vrE vrC vrF vtN vtK vhN_b15 vhW_b15 vhA_b15 vsQ_b15 vsU_b15) → va_S A s.heap H locs → lv_has ls 9 [(0, .ref aS), (1, .int x1), (2, .int x2), (3, .long x3)] → W p l e rm_X2_spread s m ([.ref aS, .int x1, .int x2, .long x3] : List Value).toArray below meth c H locs 0 0 Q (F0 m 15 ls []) := by
    intro vhN_b15 vhW_b15 vhA_b15 vsQ_b15 vsU_b15 H locs ls hw hP hD hS hl
    unfold w_X2_spread_b15 at hw
    refine lv_aload_n hx hb dX2_spread_15 rfl (lv_at hl 0 rfl) ?_
    refine va_get (D := G) (ci := 2) (v := .ref aR) (C := RX2) (T := TX2) (N := 7) hx hb hts (fun _ h => List.mem_cons_of_mem _ (List.mem_append_left _ (List.mem_append_left _ (List.mem_append_left _ (List.mem_append_right _ h))))) hown hK hP 0 rfl rfl 0 (by decide) (hts _ (List.mem_of_getElem? (i := 2) rfl)) (fun _ h9 => h9) rfl dX2_spread_16 ?_
    refine va_getN (D := G) (ci := 1) (v := .ref aF) (C := RX1) (T := TX1) (N := 5) hx hb hts (fun _ h => List.mem_cons_of_mem _ (List.mem_append_left _ (List.mem_append_left _ (List.mem_append_right _ h)))) hown hK hP 1 rfl rfl 4 (by decide) (va_Nw.use rfl (hN _ (List.mem_of_getElem? (i := 4) rfl))) (fun _ h9 => h9) rfl dX2_spread_19 ?_
    refine lv_iload_n hx hb dX2_spread_22 rfl (lv_at hl 1 rfl) ?_
    have h_3 := hw.1
    replace hw := hw.2
    refine va_iald hx hb hK hP 4 0 rfl rfl h_3 dX2_spread_23 ?_
    refine lv_topi (fun x5_4 e_5 => ?_)
    replace hw := hw x5_4 e_5
    refine lv_istore (lv' := [(5, .int x5_4), (0, .ref aS), (1, .int x1), (2, .int x2), (3, .long x3)]) hx hb dX2_spread_24 hl (by decide) rfl (fun ls hl => ?_)
    refine lv_iconst (v := (0 : Int32)) hx hb dX2_spread_26 (by decide) ?_
    refine lv_istore (lv' := [(6, .int (0 : Int32)), (5, .int x5_4), (0, .ref aS), (1, .int x1), (2, .int x2), (3, .long x3)]) hx hb dX2_spread_27 hl (by decide) rfl (fun ls hl => ?_)
    refine lv_iconst (v := (0 : Int32)) hx hb dX2_spread_29 (by decide) ?_
    refine lv_istore (lv' := [(7, .int (0 : Int32)), (6, .int (0 : Int32)), (5, .int x5_4), (0, .ref aS), (1, .int x1), (2, .int x2), (3, .long x3)]) hx hb dX2_spread_30 hl (by decide) rfl (fun ls hl => ?_)
    replace hl : lv_has ls 9 [(0, .ref aS), (1, .int x1), (2, .int x2), (3, .long x3), (5, .int x5_4), (6, .int (0 : Int32)), (7, .int (0 : Int32))] := lv_sub hl [3, 4, 5, 6, 2, 1, 0] rfl
    exact b32 N vhN_b15 vhW_b15 vhA_b15 vsQ_b15 vsU_b15 x5_4 (0 : Int32) (0 : Int32) _ _ _ hw hP hD hS hl
  unfold w_X2_spread at hw
  refine lv_aload_n hx hb dX2_spread_0 rfl (lv_at hl 0 rfl) ?_
  refine va_get (D := G) (ci := 2) (v := .ref aU) (C := RX2) (T := TX2) (N := 7) hx hb hts (fun _ h => List.mem_cons_of_mem _ (List.mem_append_left _ (List.mem_append_left _ (List.mem_append_left _ (List.mem_append_right _ h))))) hown hK hP 0 rfl rfl 5 (by decide) (hts _ (List.mem_of_getElem? (i := 1) rfl)) (fun _ h9 => h9) rfl dX2_spread_1 ?_
  refine lv_iload_n hx hb dX2_spread_4 rfl (lv_at hl 1 rfl) ?_
  have h_1 := hw.1
  replace hw := hw.2
  refine va_iald hx hb hK hP 11 0 rfl rfl h_1 dX2_spread_5 ?_
  refine lv_iconst (v := (-1 : Int32)) hx hb dX2_spread_6 (by decide) ?_
  refine lv_icmp_ne (tgt := 15) hx hb dX2_spread_7 (by decide) (fun c_2 => ?_) (fun c_2 => ?_)
  · replace hw := hw.1 c_2
    replace hl : lv_has ls 9 [(0, .ref aS), (1, .int x1), (2, .int x2), (3, .long x3)] := lv_sub hl [0, 1, 2, 3] rfl
    exact b15 vhN vhW vhA vsQ vsU _ _ _ hw hP hD hS hl
  · replace hw := hw.2 c_2
    refine lv_aload_n hx hb dX2_spread_10 rfl (lv_at hl 0 rfl) ?_
    refine lv_iload_n hx hb dX2_spread_11 rfl (lv_at hl 1 rfl) ?_
    refine kc_Vv (As := [.int x1]) (rest := []) (wc := wdS cI cJ cZ aS aR aE aC aF aT aK aH aW aA aQ aU vsB vrN vrA vrE vrC vrF vtN vtK vhN vhW vhA vsQ vsU) (wr := []) ⟨hx, hb, hml, hown, hts⟩ (cwV 1 hts gX2_spread_X2_gatherOpenArcs rfl rfl rfl (by decide +kernel) ⟨Nat.le_of_ble_eq_true rfl, Nat.le_of_ble_eq_true rfl⟩) hK hN hA hP hD hS [0, 1, 2, 3, 4, 5, 6, 7, 8, 9, 10, 11] [] rfl rfl (by decide) (by decide) (by decide) 0 rfl rfl (k_X2_gatherOpenArcs l G cI cJ cZ aS aR aE aC aF aT aK aH aW aA aQ aU _ N vsB vrN vrA vrE vrC vrF vtN vtK vhN vhW vhA vsQ vsU x1 _ hw) rfl hl.1 rfl (Nat.le_of_ble_eq_true rfl) dX2_spread_12 ⟨Nat.le_of_ble_eq_true rfl, Nat.le_of_ble_eq_true rfl⟩ (fun u_ H locs hw hP hD hS => ?_)
    obtain ⟨vsQ_27, vsU_28⟩ := u_
    replace hP : va_P G vwCl (wdS cI cJ cZ aS aR aE aC aF aT aK aH aW aA aQ aU vsB vrN vrA vrE vrC vrF vtN vtK vhN vhW vhA vsQ_27 vsU_28) H := hP.sub [0, 1, 2, 3, 4, 5, 6, 7, 8, 9, 10, 11] rfl
    replace hD : va_D A (wdS cI cJ cZ aS aR aE aC aF aT aK aH aW aA aQ aU vsB vrN vrA vrE vrC vrF vtN vtK vhN vhW vhA vsQ_27 vsU_28) := hD.sub [0, 1, 2, 3, 4, 5, 6, 7, 8, 9, 10, 11] (by decide) rfl
    replace hl : lv_has ls 9 [(0, .ref aS), (1, .int x1), (2, .int x2), (3, .long x3)] := lv_sub hl [0, 1, 2, 3] rfl
    exact b15 vhN vhW vhA vsQ_27 vsU_28 _ _ _ hw hP hD hS hl
def w_X2_begin_b41_B (N : Nat) (vrN : Int32) (vrE : Nat → Int32) (vrC : Nat → Int32) (vrF : Nat → Int32) (vtN : Int32) (vtK : Nat → Int32) (x1 : Int32) (post : Int32 → Int32 → (Nat → Int64) → (Nat → Int32) → (Nat → Int32) → (Nat → Int32) → Prop) (k41 : Int32 → Int32 → (Nat → Int64) → (Nat → Int32) → (Nat → Int32) → (Nat → Int32) → Int32 → Prop) (vsB_b41 : Int32) (vhN_b41 : Int32) (vhW_b41 : Nat → Int64) (vhA_b41 : Nat → Int32) (vsQ_b41 : Nat → Int32) (vsU_b41 : Nat → Int32) (x3_b41 : Int32) : Prop :=
  ((vrN ≤ x3_b41 → w_X2_spread N vsB_b41 vrE vrC vrF vtN vtK vhN_b41 vhW_b41 vhA_b41 vsQ_b41 vsU_b41 x1 (-1 : Int32) (0 : Int64) (fun vhN_5 vhW_6 vhA_7 vsQ_8 vsU_9 => post vsB_b41 vhN_5 vhW_6 vhA_7 vsQ_8 vsU_9)) ∧ (¬ (vrN ≤ x3_b41) → vp_in x3_b41 300 ∧ ∀ x3_11 : Int32, x3_11 = x3_b41 + (1 : Int32) → k41 vsB_b41 vhN_b41 vhW_b41 vhA_b41 vsQ_b41 (upd vsU_b41 x3_b41.toNatClampNeg (-1 : Int32)) x3_11))
def w_X2_begin_b41 (N : Nat) (vrN : Int32) (vrE : Nat → Int32) (vrC : Nat → Int32) (vrF : Nat → Int32) (vtN : Int32) (vtK : Nat → Int32) (x1 : Int32) (post : Int32 → Int32 → (Nat → Int64) → (Nat → Int32) → (Nat → Int32) → (Nat → Int32) → Prop) : Nat → Int32 → Int32 → (Nat → Int64) → (Nat → Int32) → (Nat → Int32) → (Nat → Int32) → Int32 → Prop
  | 0, _, _, _, _, _, _, _ => False
  | n + 1, vsB_b41, vhN_b41, vhW_b41, vhA_b41, vsQ_b41, vsU_b41, x3_b41 => w_X2_begin_b41_B N vrN vrE vrC vrF vtN vtK x1 post (w_X2_begin_b41 N vrN vrE vrC vrF vtN vtK x1 post n) vsB_b41 vhN_b41 vhW_b41 vhA_b41 vsQ_b41 vsU_b41 x3_b41
def w_X2_begin_b15_B (N : Nat) (vrN : Int32) (vrA : Int32) (vrE : Nat → Int32) (vrC : Nat → Int32) (vrF : Nat → Int32) (vtN : Int32) (vtK : Nat → Int32) (x1 : Int32) (post : Int32 → Int32 → (Nat → Int64) → (Nat → Int32) → (Nat → Int32) → (Nat → Int32) → Prop) (k15 : Int32 → Int32 → (Nat → Int64) → (Nat → Int32) → (Nat → Int32) → (Nat → Int32) → Int32 → Prop) (vsB_b15 : Int32) (vhN_b15 : Int32) (vhW_b15 : Nat → Int64) (vhA_b15 : Nat → Int32) (vsQ_b15 : Nat → Int32) (vsU_b15 : Nat → Int32) (x3_b15 : Int32) : Prop :=
  ((vrA ≤ x3_b15 → w_X2_begin_b41 N vrN vrE vrC vrF vtN vtK x1 post N vsB_b15 vhN_b15 vhW_b15 vhA_b15 vsQ_b15 vsU_b15 (0 : Int32)) ∧ (¬ (vrA ≤ x3_b15) → vp_in x3_b15 4000 ∧ ∀ x3_14 : Int32, x3_14 = x3_b15 + (1 : Int32) → k15 vsB_b15 vhN_b15 (vp_updL vhW_b15 x3_b15.toNatClampNeg (0 : Int64)) vhA_b15 vsQ_b15 vsU_b15 x3_14))
def w_X2_begin_b15 (N : Nat) (vrN : Int32) (vrA : Int32) (vrE : Nat → Int32) (vrC : Nat → Int32) (vrF : Nat → Int32) (vtN : Int32) (vtK : Nat → Int32) (x1 : Int32) (post : Int32 → Int32 → (Nat → Int64) → (Nat → Int32) → (Nat → Int32) → (Nat → Int32) → Prop) : Nat → Int32 → Int32 → (Nat → Int64) → (Nat → Int32) → (Nat → Int32) → (Nat → Int32) → Int32 → Prop
  | 0, _, _, _, _, _, _, _ => False
  | n + 1, vsB_b15, vhN_b15, vhW_b15, vhA_b15, vsQ_b15, vsU_b15, x3_b15 => w_X2_begin_b15_B N vrN vrA vrE vrC vrF vtN vtK x1 post (w_X2_begin_b15 N vrN vrA vrE vrC vrF vtN vtK x1 post n) vsB_b15 vhN_b15 vhW_b15 vhA_b15 vsQ_b15 vsU_b15 x3_b15
def w_X2_begin (N : Nat) (vsB : Int32) (vrN : Int32) (vrA : Int32) (vrE : Nat → Int32) (vrC : Nat → Int32) (vrF : Nat → Int32) (vtN : Int32) (vtK : Nat → Int32) (vhN : Int32) (vhW : Nat → Int64) (vhA : Nat → Int32) (vsQ : Nat → Int32) (vsU : Nat → Int32) (x1 : Int32) (x2 : Int32) (post : Int32 → Int32 → (Nat → Int64) → (Nat → Int32) → (Nat → Int32) → (Nat → Int32) → Prop) : Prop :=
  vz x2 ∧ w_X2_begin_b15 N vrN vrA vrE vrC vrF vtN vtK x1 post N x2 (0 : Int32) vhW vhA vsQ vsU (0 : Int32)
abbrev rm_X2_begin : Room := { frames := 4, cells := 0, slots := 0, locals := 102 }
set_option maxHeartbeats 4000000 in
set_option maxRecDepth 100000 in
theorem k_X2_begin (l : Launch) (G : va_G) (cI cJ cZ : ClassId) (aS aR aE aC aF aT aK aH aW aA aQ aU : Nat) (sz N : Nat) (vsB : Int32) (vrN : Int32) (vrA : Int32) (vrE : Nat → Int32) (vrC : Nat → Int32) (vrF : Nat → Int32) (vtN : Int32) (vtK : Nat → Int32) (vhN : Int32) (vhW : Nat → Int64) (vhA : Nat → Int32) (vsQ : Nat → Int32) (vsU : Nat → Int32) (x1 : Int32) (x2 : Int32) (post : Int32 → Int32 → (Nat → Int64) → (Nat → Int32) → (Nat → Int32) → (Nat → Int32) → Prop) (hw : w_X2_begin N vsB vrN vrA vrE vrC vrF vtN vtK vhN vhW vhA vsQ vsU x1 x2 post) : Met l yX2_begin wsX2_begin rm_X2_begin (kPc G (tyL cI cJ cZ) [.ref aS, .int x1, .int x2] sz (wdS cI cJ cZ aS aR aE aC aF aT aK aH aW aA aQ aU vsB vrN vrA vrE vrC vrF vtN vtK vhN vhW vhA vsQ vsU)) (va_Qv (fun (u : Int32 × Int32 × (Nat → Int64) × (Nat → Int32) × (Nat → Int32) × (Nat → Int32)) => post u.1 u.2.1 u.2.2.1 u.2.2.2.1 u.2.2.2.2.1 u.2.2.2.2.2) (kB G (tyL cI cJ cZ) (va_A (wdS cI cJ cZ aS aR aE aC aF aT aK aH aW aA aQ aU vsB vrN vrA vrE vrC vrF vtN vtK vhN vhW vhA vsQ vsU) sz) (fun (u : Int32 × Int32 × (Nat → Int64) × (Nat → Int32) × (Nat → Int32) × (Nat → Int32)) => wdS cI cJ cZ aS aR aE aC aF aT aK aH aW aA aQ aU u.1 vrN vrA vrE vrC vrF vtN vtK u.2.1 u.2.2.1 u.2.2.2.1 u.2.2.2.2.1 u.2.2.2.2.2)) (va_A (wdS cI cJ cZ aS aR aE aC aF aT aK aH aW aA aQ aU vsB vrN vrA vrE vrC vrF vtN vtK vhN vhW vhA vsQ vsU) sz)) 0 0 (va_A (wdS cI cJ cZ aS aR aE aC aF aT aK aH aW aA aQ aU vsB vrN vrA vrE vrC vrF vtN vtK vhN vhW vhA vsQ vsU) sz) := by
  refine km_v (cc := cX2_begin) (maxL := 4) (by decide) rfl (Nat.le_of_ble_eq_true rfl) ?_
  intro p e s m below meth c A Q ls hx hb hml hts hown hnm hK hN hA hP hD hS hl hret
  replace hown : s.vm.findClass RX2 = some m.cls := hown
  replace hl : lv_has ls 4 [(0, .ref aS), (1, .int x1), (2, .int x2)] := hl
  have b41 : ∀ (n41 : Nat) (vsB_b41 : Int32) (vhN_b41 : Int32) (vhW_b41 : Nat → Int64) (vhA_b41 : Nat → Int32) (vsQ_b41 : Nat → Int32) (vsU_b41 : Nat → Int32) (x3_b41 : Int32) (H : Heap) (locs : List Loc) (ls : Array Slot), w_X2_begin_b41 N vrN vrE vrC vrF vtN vtK x1 post n41 vsB_b41 vhN_b41 vhW_b41 vhA_b41 vsQ_b41 vsU_b41 x3_b41 → va_P G vwCl (wdS cI cJ cZ aS aR aE aC aF aT aK aH aW aA aQ aU vsB_b41 vrN vrA vrE vrC vrF vtN vtK vhN_b41 vhW_b41 vhA_b41 vsQ_b41 vsU_b41) H → va_D A (wdS cI cJ cZ aS aR aE aC aF aT aK aH aW aA aQ aU vsB_b41 vrN vrA vrE vrC vrF vtN vtK vhN_b41 vhW_b41 vhA_b41 vsQ_b41 vsU_b41) → va_S A s.heap H locs → lv_has ls 4 [(0, .ref aS), (1, .int x1), (3, .int x3_b41)] → W p l e rm_X2_begin s m ([.ref aS, .int x1, .int x2] : List Value).toArray below meth c H locs 0 0 Q (F0 m 41 ls []) := by
    intro n41
    induction n41 with
    | zero => intro vsB_b41 vhN_b41 vhW_b41 vhA_b41 vsQ_b41 vsU_b41 x3_b41 H locs ls hw; exact hw.elim
    | succ n41 ih41 =>
      intro vsB_b41 vhN_b41 vhW_b41 vhA_b41 vsQ_b41 vsU_b41 x3_b41 H locs ls hw hP hD hS hl
      replace hw : w_X2_begin_b41_B N vrN vrE vrC vrF vtN vtK x1 post (w_X2_begin_b41 N vrN vrE vrC vrF vtN vtK x1 post n41) vsB_b41 vhN_b41 vhW_b41 vhA_b41 vsQ_b41 vsU_b41 x3_b41 := hw
      unfold w_X2_begin_b41_B at hw
      refine lv_iload_n hx hb dX2_begin_41 rfl (lv_at hl 2 rfl) ?_
      refine lv_aload_n hx hb dX2_begin_42 rfl (lv_at hl 0 rfl) ?_
      refine va_get (D := G) (ci := 2) (v := .ref aR) (C := RX2) (T := TX2) (N := 7) hx hb hts (fun _ h => List.mem_cons_of_mem _ (List.mem_append_left _ (List.mem_append_left _ (List.mem_append_left _ (List.mem_append_right _ h))))) hown hK hP 0 rfl rfl 0 (by decide) (hts _ (List.mem_of_getElem? (i := 3) rfl)) (fun _ h9 => h9) rfl dX2_begin_43 ?_
      refine va_getN (D := G) (ci := 1) (v := .int vrN) (C := RX1) (T := TX1) (N := 5) hx hb hts (fun _ h => List.mem_cons_of_mem _ (List.mem_append_left _ (List.mem_append_right _ h))) hown hK hP 1 rfl rfl 0 (by decide) (va_Nw.use rfl (hN _ (List.mem_of_getElem? (i := 3) rfl))) (fun _ h9 => h9) rfl dX2_begin_46 ?_
      refine lv_icmp_ge (tgt := 65) hx hb dX2_begin_49 (by decide) (fun c_3 => ?_) (fun c_3 => ?_)
      · replace hw := hw.1 c_3
        refine lv_aload_n hx hb dX2_begin_65 rfl (lv_at hl 0 rfl) ?_
        refine lv_iload_n hx hb dX2_begin_66 rfl (lv_at hl 1 rfl) ?_
        refine lv_iconst (v := (-1 : Int32)) hx hb dX2_begin_67 (by decide) ?_
        refine lv_lconst (v := (0 : Int64)) hx hb dX2_begin_68 (by decide) ?_
        refine kc_Vv (As := [.int x1, .int (-1 : Int32), .long (0 : Int64)]) (rest := []) (wc := wdS cI cJ cZ aS aR aE aC aF aT aK aH aW aA aQ aU vsB_b41 vrN vrA vrE vrC vrF vtN vtK vhN_b41 vhW_b41 vhA_b41 vsQ_b41 vsU_b41) (wr := []) ⟨hx, hb, hml, hown, hts⟩ (cwV 3 hts gX2_begin_X2_spread rfl rfl rfl (by decide +kernel) ⟨Nat.le_of_ble_eq_true rfl, Nat.le_of_ble_eq_true rfl⟩) hK hN hA hP hD hS [0, 1, 2, 3, 4, 5, 6, 7, 8, 9, 10, 11] [] rfl rfl (by decide) (by decide) (by decide) 0 rfl rfl (k_X2_spread l G cI cJ cZ aS aR aE aC aF aT aK aH aW aA aQ aU _ N vsB_b41 vrN vrA vrE vrC vrF vtN vtK vhN_b41 vhW_b41 vhA_b41 vsQ_b41 vsU_b41 x1 (-1 : Int32) (0 : Int64) _ hw) rfl hl.1 rfl (Nat.le_of_ble_eq_true rfl) dX2_begin_69 ⟨Nat.le_of_ble_eq_true rfl, Nat.le_of_ble_eq_true rfl⟩ (fun u_ H locs hw hP hD hS => ?_)
        obtain ⟨vhN_5, vhW_6, vhA_7, vsQ_8, vsU_9⟩ := u_
        replace hP : va_P G vwCl (wdS cI cJ cZ aS aR aE aC aF aT aK aH aW aA aQ aU vsB_b41 vrN vrA vrE vrC vrF vtN vtK vhN_5 vhW_6 vhA_7 vsQ_8 vsU_9) H := hP.sub [0, 1, 2, 3, 4, 5, 6, 7, 8, 9, 10, 11] rfl
        replace hD : va_D A (wdS cI cJ cZ aS aR aE aC aF aT aK aH aW aA aQ aU vsB_b41 vrN vrA vrE vrC vrF vtN vtK vhN_5 vhW_6 vhA_7 vsQ_8 vsU_9) := hD.sub [0, 1, 2, 3, 4, 5, 6, 7, 8, 9, 10, 11] (by decide) rfl
        exact hret 72 (vsB_b41, vhN_5, vhW_6, vhA_7, vsQ_8, vsU_9) _ _ _ dX2_begin_72 hw hP hD hS
      · replace hw := hw.2 c_3
        refine lv_aload_n hx hb dX2_begin_52 rfl (lv_at hl 0 rfl) ?_
        refine va_get (D := G) (ci := 2) (v := .ref aU) (C := RX2) (T := TX2) (N := 7) hx hb hts (fun _ h => List.mem_cons_of_mem _ (List.mem_append_left _ (List.mem_append_left _ (List.mem_append_left _ (List.mem_append_right _ h))))) hown hK hP 0 rfl rfl 5 (by decide) (hts _ (List.mem_of_getElem? (i := 5) rfl)) (fun _ h9 => h9) rfl dX2_begin_53 ?_
        refine lv_iload_n hx hb dX2_begin_56 rfl (lv_at hl 2 rfl) ?_
        refine lv_iconst (v := (-1 : Int32)) hx hb dX2_begin_57 (by decide) ?_
        have h_10 := hw.1
        replace hw := hw.2
        refine va_iast hx hb hK hP hD hS 11 0 rfl rfl h_10 dX2_begin_58 (fun H locs hP hD hS => ?_)
        replace hP : va_P G vwCl (wdS cI cJ cZ aS aR aE aC aF aT aK aH aW aA aQ aU vsB_b41 vrN vrA vrE vrC vrF vtN vtK vhN_b41 vhW_b41 vhA_b41 vsQ_b41 (upd vsU_b41 x3_b41.toNatClampNeg (-1 : Int32))) H := hP
        replace hD : va_D A (wdS cI cJ cZ aS aR aE aC aF aT aK aH aW aA aQ aU vsB_b41 vrN vrA vrE vrC vrF vtN vtK vhN_b41 vhW_b41 vhA_b41 vsQ_b41 (upd vsU_b41 x3_b41.toNatClampNeg (-1 : Int32))) := hD
        obtain ⟨x3_11, e_12⟩ : ∃ y : Int32, y = x3_b41 + (1 : Int32) := ⟨_, rfl⟩
        replace hw := hw x3_11 e_12
        refine lv_iinc (v := x3_11) (lv' := [(3, .int x3_11), (0, .ref aS), (1, .int x1)]) hx hb dX2_begin_59 hl (k := 2) rfl (by rw [e_12]; rfl) (by decide) rfl (fun ls hl => ?_)
        refine lv_goto (tgt := 41) hx hb dX2_begin_62 (by decide) ?_
        replace hl : lv_has ls 4 [(0, .ref aS), (1, .int x1), (3, .int x3_11)] := lv_sub hl [1, 2, 0] rfl
        exact ih41 vsB_b41 vhN_b41 vhW_b41 vhA_b41 vsQ_b41 (upd vsU_b41 x3_b41.toNatClampNeg (-1 : Int32)) x3_11 _ _ _ hw hP hD hS hl
  have b15 : ∀ (n15 : Nat) (vsB_b15 : Int32) (vhN_b15 : Int32) (vhW_b15 : Nat → Int64) (vhA_b15 : Nat → Int32) (vsQ_b15 : Nat → Int32) (vsU_b15 : Nat → Int32) (x3_b15 : Int32) (H : Heap) (locs : List Loc) (ls : Array Slot), w_X2_begin_b15 N vrN vrA vrE vrC vrF vtN vtK x1 post n15 vsB_b15 vhN_b15 vhW_b15 vhA_b15 vsQ_b15 vsU_b15 x3_b15 → va_P G vwCl (wdS cI cJ cZ aS aR aE aC aF aT aK aH aW aA aQ aU vsB_b15 vrN vrA vrE vrC vrF vtN vtK vhN_b15 vhW_b15 vhA_b15 vsQ_b15 vsU_b15) H → va_D A (wdS cI cJ cZ aS aR aE aC aF aT aK aH aW aA aQ aU vsB_b15 vrN vrA vrE vrC vrF vtN vtK vhN_b15 vhW_b15 vhA_b15 vsQ_b15 vsU_b15) → va_S A s.heap H locs → lv_has ls 4 [(0, .ref aS), (1, .int x1), (3, .int x3_b15)] → W p l e rm_X2_begin s m ([.ref aS, .int x1, .int x2] : List Value).toArray below meth c H locs 0 0 Q (F0 m 15 ls []) := by
    intro n15
    induction n15 with
    | zero => intro vsB_b15 vhN_b15 vhW_b15 vhA_b15 vsQ_b15 vsU_b15 x3_b15 H locs ls hw; exact hw.elim
    | succ n15 ih15 =>
      intro vsB_b15 vhN_b15 vhW_b15 vhA_b15 vsQ_b15 vsU_b15 x3_b15 H locs ls hw hP hD hS hl
      replace hw : w_X2_begin_b15_B N vrN vrA vrE vrC vrF vtN vtK x1 post (w_X2_begin_b15 N vrN vrA vrE vrC vrF vtN vtK x1 post n15) vsB_b15 vhN_b15 vhW_b15 vhA_b15 vsQ_b15 vsU_b15 x3_b15 := hw
      unfold w_X2_begin_b15_B at hw
      refine lv_iload_n hx hb dX2_begin_15 rfl (lv_at hl 2 rfl) ?_
      refine lv_aload_n hx hb dX2_begin_16 rfl (lv_at hl 0 rfl) ?_
      refine va_get (D := G) (ci := 2) (v := .ref aR) (C := RX2) (T := TX2) (N := 7) hx hb hts (fun _ h => List.mem_cons_of_mem _ (List.mem_append_left _ (List.mem_append_left _ (List.mem_append_left _ (List.mem_append_right _ h))))) hown hK hP 0 rfl rfl 0 (by decide) (hts _ (List.mem_of_getElem? (i := 3) rfl)) (fun _ h9 => h9) rfl dX2_begin_17 ?_
      refine va_getN (D := G) (ci := 1) (v := .int vrA) (C := RX1) (T := TX1) (N := 5) hx hb hts (fun _ h => List.mem_cons_of_mem _ (List.mem_append_left _ (List.mem_append_right _ h))) hown hK hP 1 rfl rfl 1 (by decide) (va_Nw.use rfl (hN _ (List.mem_of_getElem? (i := 2) rfl))) (fun _ h9 => h9) rfl dX2_begin_20 ?_
      refine lv_icmp_ge (tgt := 39) hx hb dX2_begin_23 (by decide) (fun c_2 => ?_) (fun c_2 => ?_)
      · replace hw := hw.1 c_2
        refine lv_iconst (v := (0 : Int32)) hx hb dX2_begin_39 (by decide) ?_
        refine lv_istore_n (lv' := [(3, .int (0 : Int32)), (0, .ref aS), (1, .int x1)]) hx hb dX2_begin_40 rfl hl (by decide) rfl (fun ls hl => ?_)
        replace hl : lv_has ls 4 [(0, .ref aS), (1, .int x1), (3, .int (0 : Int32))] := lv_sub hl [1, 2, 0] rfl
        exact b41 N vsB_b15 vhN_b15 vhW_b15 vhA_b15 vsQ_b15 vsU_b15 (0 : Int32) _ _ _ hw hP hD hS hl
      · replace hw := hw.2 c_2
        refine lv_aload_n hx hb dX2_begin_26 rfl (lv_at hl 0 rfl) ?_
        refine va_get (D := G) (ci := 2) (v := .ref aW) (C := RX2) (T := TX2) (N := 7) hx hb hts (fun _ h => List.mem_cons_of_mem _ (List.mem_append_left _ (List.mem_append_left _ (List.mem_append_left _ (List.mem_append_right _ h))))) hown hK hP 0 rfl rfl 2 (by decide) (hts _ (List.mem_of_getElem? (i := 4) rfl)) (fun _ h9 => h9) rfl dX2_begin_27 ?_
        refine lv_iload_n hx hb dX2_begin_30 rfl (lv_at hl 2 rfl) ?_
        refine lv_lconst (v := (0 : Int64)) hx hb dX2_begin_31 (by decide) ?_
        have h_13 := hw.1
        replace hw := hw.2
        refine va_last hx hb hK hP hD hS 8 1 rfl rfl h_13 dX2_begin_32 (fun H locs hP hD hS => ?_)
        replace hP : va_P G vwCl (wdS cI cJ cZ aS aR aE aC aF aT aK aH aW aA aQ aU vsB_b15 vrN vrA vrE vrC vrF vtN vtK vhN_b15 (vp_updL vhW_b15 x3_b15.toNatClampNeg (0 : Int64)) vhA_b15 vsQ_b15 vsU_b15) H := hP
        replace hD : va_D A (wdS cI cJ cZ aS aR aE aC aF aT aK aH aW aA aQ aU vsB_b15 vrN vrA vrE vrC vrF vtN vtK vhN_b15 (vp_updL vhW_b15 x3_b15.toNatClampNeg (0 : Int64)) vhA_b15 vsQ_b15 vsU_b15) := hD
        obtain ⟨x3_14, e_15⟩ : ∃ y : Int32, y = x3_b15 + (1 : Int32) := ⟨_, rfl⟩
        replace hw := hw x3_14 e_15
        refine lv_iinc (v := x3_14) (lv' := [(3, .int x3_14), (0, .ref aS), (1, .int x1)]) hx hb dX2_begin_33 hl (k := 2) rfl (by rw [e_15]; rfl) (by decide) rfl (fun ls hl => ?_)
        refine lv_goto (tgt := 15) hx hb dX2_begin_36 (by decide) ?_
        replace hl : lv_has ls 4 [(0, .ref aS), (1, .int x1), (3, .int x3_14)] := lv_sub hl [1, 2, 0] rfl
        exact ih15 vsB_b15 vhN_b15 (vp_updL vhW_b15 x3_b15.toNatClampNeg (0 : Int64)) vhA_b15 vsQ_b15 vsU_b15 x3_14 _ _ _ hw hP hD hS hl
  unfold w_X2_begin at hw
  refine lv_aload_n hx hb dX2_begin_0 rfl (lv_at hl 0 rfl) ?_
  refine lv_iload_n hx hb dX2_begin_1 rfl (lv_at hl 2 rfl) ?_
  have h_1 := hw.1
  replace hw := hw.2
  refine va_put (D := G) (ci := 2) (v := .int x2) (ty := .boolean) (C := RX2) (T := TX2) (N := 7) hx hb hts (fun _ h => List.mem_cons_of_mem _ (List.mem_append_left _ (List.mem_append_left _ (List.mem_append_left _ (List.mem_append_right _ h))))) tyX2 tyX2_ok nmX2 hown hK hP hD hS 0 rfl rfl 6 (by decide) (hts _ (List.mem_of_getElem? (i := 1) rfl)) (fun _ h9 => h9) rfl (by decide +kernel) (vz_n h_1) (vz_f h_1) (Nat.le_of_ble_eq_true rfl) dX2_begin_2 (fun H locs hP hD hS => ?_)
  replace hP : va_P G vwCl (wdS cI cJ cZ aS aR aE aC aF aT aK aH aW aA aQ aU x2 vrN vrA vrE vrC vrF vtN vtK vhN vhW vhA vsQ vsU) H := hP
  replace hD : va_D A (wdS cI cJ cZ aS aR aE aC aF aT aK aH aW aA aQ aU x2 vrN vrA vrE vrC vrF vtN vtK vhN vhW vhA vsQ vsU) := hD
  refine lv_aload_n hx hb dX2_begin_5 rfl (lv_at hl 0 rfl) ?_
  refine va_get (D := G) (ci := 2) (v := .ref aH) (C := RX2) (T := TX2) (N := 7) hx hb hts (fun _ h => List.mem_cons_of_mem _ (List.mem_append_left _ (List.mem_append_left _ (List.mem_append_left _ (List.mem_append_right _ h))))) hown hK hP 0 rfl rfl 3 (by decide) (hts _ (List.mem_of_getElem? (i := 2) rfl)) (fun _ h9 => h9) rfl dX2_begin_6 ?_
  refine lv_iconst (v := (0 : Int32)) hx hb dX2_begin_9 (by decide) ?_
  refine va_putN (D := G) (ci := 0) (v := .int (0 : Int32)) (ty := .int) (C := RX0) (T := TX0) (N := 3) hx hb hts (fun _ h => List.mem_cons_of_mem _ (List.mem_append_left _ (List.mem_append_left _ (List.mem_append_right _ h)))) tyX0 tyX0_ok nmX0 hown hK hP hD hS 7 rfl rfl 2 (by decide) (va_Nw.use rfl (hN _ (List.mem_of_getElem? (i := 1) rfl))) (fun _ h9 => h9) rfl (by decide +kernel) rfl rfl (Nat.le_of_ble_eq_true rfl) dX2_begin_10 (fun H locs hP hD hS => ?_)
  replace hP : va_P G vwCl (wdS cI cJ cZ aS aR aE aC aF aT aK aH aW aA aQ aU x2 vrN vrA vrE vrC vrF vtN vtK (0 : Int32) vhW vhA vsQ vsU) H := hP
  replace hD : va_D A (wdS cI cJ cZ aS aR aE aC aF aT aK aH aW aA aQ aU x2 vrN vrA vrE vrC vrF vtN vtK (0 : Int32) vhW vhA vsQ vsU) := hD
  refine lv_iconst (v := (0 : Int32)) hx hb dX2_begin_13 (by decide) ?_
  refine lv_istore_n (lv' := [(3, .int (0 : Int32)), (0, .ref aS), (1, .int x1), (2, .int x2)]) hx hb dX2_begin_14 rfl hl (by decide) rfl (fun ls hl => ?_)
  replace hl : lv_has ls 4 [(0, .ref aS), (1, .int x1), (3, .int (0 : Int32))] := lv_sub hl [1, 2, 0] rfl
  exact b15 N x2 (0 : Int32) vhW vhA vsQ vsU (0 : Int32) _ _ _ hw hP hD hS hl
