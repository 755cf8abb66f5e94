def w_X1_reset_b12_B (N : Nat)  (post : Int32 → Int32 → (Nat → Int32) → Prop) (k12 : Int32 → Int32 → (Nat → Int32) → Int32 → Prop) (vrN_b12 : Int32) (vrA_b12 : Int32) (vrF_b12 : Nat → Int32) (x2_b12 : Int32) : Prop :=
  (((301 : Int32) ≤ x2_b12 → post vrN_b12 vrA_b12 vrF_b12) ∧ (¬ ((301 : Int32) ≤ x2_b12) → vp_in x2_b12 301 ∧ ∀ x2_3 : Int32, x2_3 = x2_b12 + (1 : Int32) → k12 vrN_b12 vrA_b12 (upd vrF_b12 x2_b12.toNatClampNeg (0 : Int32)) x2_3))
def w_X1_reset_b12 (N : Nat)  (post : Int32 → Int32 → (Nat → Int32) → Prop) : Nat → Int32 → Int32 → (Nat → Int32) → Int32 → Prop
  | 0, _, _, _, _ => False
  | n + 1, vrN_b12, vrA_b12, vrF_b12, x2_b12 => w_X1_reset_b12_B N post (w_X1_reset_b12 N post n) vrN_b12 vrA_b12 vrF_b12 x2_b12
def w_X1_reset (N : Nat) (vrN : Int32) (vrA : Int32) (vrF : Nat → Int32) (x1 : Int32) (post : Int32 → Int32 → (Nat → Int32) → Prop) : Prop :=
  w_X1_reset_b12 N  post N x1 (0 : Int32) vrF (0 : Int32)
abbrev rm_X1_reset : Room := { frames := 0, cells := 0, slots := 0, locals := 0 }
set_option maxHeartbeats 4000000 in
set_option maxRecDepth 100000 in
theorem k_X1_reset (l : Launch) (G : va_G) (cI cJ cZ : ClassId) (aR aE aC aF : Nat) (sz N : Nat) (vrN : Int32) (vrA : Int32) (vrE : Nat → Int32) (vrC : Nat → Int32) (vrF : Nat → Int32) (x1 : Int32) (post : Int32 → Int32 → (Nat → Int32) → Prop) (hw : w_X1_reset N vrN vrA vrF x1 post) : Met l yX1_reset wsX1_reset rm_X1_reset (kPc G (tyL cI cJ cZ) [.ref aR, .int x1] sz (wdR cI cJ cZ aR aE aC aF vrN vrA vrE vrC vrF)) (va_Qv (fun (u : Int32 × Int32 × (Nat → Int32)) => post u.1 u.2.1 u.2.2) (kB G (tyL cI cJ cZ) (va_A (wdR cI cJ cZ aR aE aC aF vrN vrA vrE vrC vrF) sz) (fun (u : Int32 × Int32 × (Nat → Int32)) => wdR cI cJ cZ aR aE aC aF u.1 u.2.1 vrE vrC u.2.2)) (va_A (wdR cI cJ cZ aR aE aC aF vrN vrA vrE vrC vrF) sz)) 0 0 (va_A (wdR cI cJ cZ aR aE aC aF vrN vrA vrE vrC vrF) sz) := by
  refine km_v (cc := cX1_reset) (maxL := 3) (by decide) rfl (Nat.le_of_ble_eq_true rfl) ?_
  intro p e s m below meth c A Q ls hx hb hml hts hown hnm hK hN hA hP hD hS hl hret
  replace hown : s.vm.findClass RX1 = some m.cls := hown
  replace hl : lv_has ls 3 [(0, .ref aR), (1, .int x1)] := hl
  have b12 : ∀ (n12 : Nat) (vrN_b12 : Int32) (vrA_b12 : Int32) (vrF_b12 : Nat → Int32) (x2_b12 : Int32) (H : Heap) (locs : List Loc) (ls : Array Slot), w_X1_reset_b12 N post n12 vrN_b12 vrA_b12 vrF_b12 x2_b12 → va_P G vwCl (wdR cI cJ cZ aR aE aC aF vrN_b12 vrA_b12 vrE vrC vrF_b12) H → va_D A (wdR cI cJ cZ aR aE aC aF vrN_b12 vrA_b12 vrE vrC vrF_b12) → va_S A s.heap H locs → lv_has ls 3 [(0, .ref aR), (2, .int x2_b12)] → W p l e rm_X1_reset s m ([.ref aR, .int x1] : List Value).toArray below meth c H locs 0 0 Q (F0 m 12 ls []) := by
    intro n12
    induction n12 with
    | zero => intro vrN_b12 vrA_b12 vrF_b12 x2_b12 H locs ls hw; exact hw.elim
    | succ n12 ih12 =>
      intro vrN_b12 vrA_b12 vrF_b12 x2_b12 H locs ls hw hP hD hS hl
      replace hw : w_X1_reset_b12_B N post (w_X1_reset_b12 N post n12) vrN_b12 vrA_b12 vrF_b12 x2_b12 := hw
      unfold w_X1_reset_b12_B at hw
      refine lv_iload_n hx hb dX1_reset_12 rfl (lv_at hl 1 rfl) ?_
      refine lv_aload_n hx hb dX1_reset_13 rfl (lv_at hl 0 rfl) ?_
      refine va_get (D := G) (ci := 1) (v := .ref aF) (C := RX1) (T := TX1) (N := 5) hx hb hts (fun _ h => List.mem_cons_of_mem _ (List.mem_append_right _ h)) hown hK hP 0 rfl rfl 4 (by decide) (hts _ (List.mem_of_getElem? (i := 3) rfl)) (fun _ h9 => h9) rfl dX1_reset_14 ?_
      refine va_alen (v := (301 : Int32)) hx hb hK hP 3 0 rfl rfl rfl dX1_reset_17 ?_
      refine lv_icmp_ge (tgt := 34) hx hb dX1_reset_18 (by decide) (fun c_1 => ?_) (fun c_1 => ?_)
      · replace hw := hw.1 c_1
        exact hret 34 (vrN_b12, vrA_b12, vrF_b12) _ _ _ dX1_reset_34 hw hP hD hS
      · replace hw := hw.2 c_1
        refine lv_aload_n hx hb dX1_reset_21 rfl (lv_at hl 0 rfl) ?_
        refine va_get (D := G) (ci := 1) (v := .ref aF) (C := RX1) (T := TX1) (N := 5) hx hb hts (fun _ h => List.mem_cons_of_mem _ (List.mem_append_right _ h)) hown hK hP 0 rfl rfl 4 (by decide) (hts _ (List.mem_of_getElem? (i := 3) rfl)) (fun _ h9 => h9) rfl dX1_reset_22 ?_
        refine lv_iload_n hx hb dX1_reset_25 rfl (lv_at hl 1 rfl) ?_
        refine lv_iconst (v := (0 : Int32)) hx hb dX1_reset_26 (by decide) ?_
        have h_2 := hw.1
        replace hw := hw.2
        refine va_iast hx hb hK hP hD hS 3 0 rfl rfl h_2 dX1_reset_27 (fun H locs hP hD hS => ?_)
        replace hP : va_P G vwCl (wdR cI cJ cZ aR aE aC aF vrN_b12 vrA_b12 vrE vrC (upd vrF_b12 x2_b12.toNatClampNeg (0 : Int32))) H := hP
        replace hD : va_D A (wdR cI cJ cZ aR aE aC aF vrN_b12 vrA_b12 vrE vrC (upd vrF_b12 x2_b12.toNatClampNeg (0 : Int32))) := hD
        obtain ⟨x2_3, e_4⟩ : ∃ y : Int32, y = x2_b12 + (1 : Int32) := ⟨_, rfl⟩
        replace hw := hw x2_3 e_4
        refine lv_iinc (v := x2_3) (lv' := [(2, .int x2_3), (0, .ref aR)]) hx hb dX1_reset_28 hl (k := 1) rfl (by rw [e_4]; rfl) (by decide) rfl (fun ls hl => ?_)
        refine lv_goto (tgt := 12) hx hb dX1_reset_31 (by decide) ?_
        replace hl : lv_has ls 3 [(0, .ref aR), (2, .int x2_3)] := lv_sub hl [1, 0] rfl
        exact ih12 vrN_b12 vrA_b12 (upd vrF_b12 x2_b12.toNatClampNeg (0 : Int32)) x2_3 _ _ _ hw hP hD hS hl
  unfold w_X1_reset at hw
  refine lv_aload_n hx hb dX1_reset_0 rfl (lv_at hl 0 rfl) ?_
  refine lv_iload_n hx hb dX1_reset_1 rfl (lv_at hl 1 rfl) ?_
  refine va_put (D := G) (ci := 1) (v := .int x1) (ty := .int) (C := RX1) (T := TX1) (N := 5) hx hb hts (fun _ h => List.mem_cons_of_mem _ (List.mem_append_right _ h)) tyX1 tyX1_ok nmX1 hown hK hP hD hS 0 rfl rfl 0 (by decide) (hts _ (List.mem_of_getElem? (i := 1) rfl)) (fun _ h9 => h9) rfl (by decide +kernel) rfl rfl (Nat.le_of_ble_eq_true rfl) dX1_reset_2 (fun H locs hP hD hS => ?_)
  replace hP : va_P G vwCl (wdR cI cJ cZ aR aE aC aF x1 vrA vrE vrC vrF) H := hP
  replace hD : va_D A (wdR cI cJ cZ aR aE aC aF x1 vrA vrE vrC vrF) := hD
  refine lv_aload_n hx hb dX1_reset_5 rfl (lv_at hl 0 rfl) ?_
  refine lv_iconst (v := (0 : Int32)) hx hb dX1_reset_6 (by decide) ?_
  refine va_put (D := G) (ci := 1) (v := .int (0 : Int32)) (ty := .int) (C := RX1) (T := TX1) (N := 5) hx hb hts (fun _ h => List.mem_cons_of_mem _ (List.mem_append_right _ h)) tyX1 tyX1_ok nmX1 hown hK hP hD hS 0 rfl rfl 1 (by decide) (hts _ (List.mem_of_getElem? (i := 2) rfl)) (fun _ h9 => h9) rfl (by decide +kernel) rfl rfl (Nat.le_of_ble_eq_true rfl) dX1_reset_7 (fun H locs hP hD hS => ?_)
  replace hP : va_P G vwCl (wdR cI cJ cZ aR aE aC aF x1 (0 : Int32) vrE vrC vrF) H := hP
  replace hD : va_D A (wdR cI cJ cZ aR aE aC aF x1 (0 : Int32) vrE vrC vrF) := hD
  refine lv_iconst (v := (0 : Int32)) hx hb dX1_reset_10 (by decide) ?_
  refine lv_istore_n (lv' := [(2, .int (0 : Int32)), (0, .ref aR), (1, .int x1)]) hx hb dX1_reset_11 rfl hl (by decide) rfl (fun ls hl => ?_)
  replace hl : lv_has ls 3 [(0, .ref aR), (2, .int (0 : Int32))] := lv_sub hl [1, 0] rfl
  exact b12 N x1 (0 : Int32) vrF (0 : Int32) _ _ _ hw hP hD hS hl
def w_X1_placeOf (N : Nat) (vrE : Nat → Int32) (vrF : Nat → Int32) (x1 : Int32) (x2 : Int32) (post : Int32 → Prop) : Prop :=
  vp_in x1 301 ∧ vp_in (x1 + (1 : Int32)) 301 ∧ w_X1_key N x1 x2 (fun r_3 => w_X4_placeIn N vrE 4000 (vrF x1.toNatClampNeg) (vrF (x1 + (1 : Int32)).toNatClampNeg) r_3 (fun r_4 => post r_4))
abbrev rm_X1_placeOf : Room := { frames := 1, cells := 0, slots := 0, locals := 26 }
set_option maxHeartbeats 4000000 in
set_option maxRecDepth 100000 in
theorem k_X1_placeOf (l : Launch) (G : va_G) (cI cJ cZ : ClassId) (aR aE aC aF : Nat) (sz N : Nat) (vrN : Int32) (vrA : Int32) (vrE : Nat → Int32) (vrC : Nat → Int32) (vrF : Nat → Int32) (x1 : Int32) (x2 : Int32) (post : Int32 → Prop) (hw : w_X1_placeOf N vrE vrF x1 x2 post) : Met l yX1_placeOf wsX1_placeOf rm_X1_placeOf (kPc G (tyL cI cJ cZ) [.ref aR, .int x1, .int x2] sz (wdR cI cJ cZ aR aE aC aF vrN vrA vrE vrC vrF)) (va_Qi (fun (r : Int32) (u : Unit) => post r ) (kB G (tyL cI cJ cZ) (va_A (wdR cI cJ cZ aR aE aC aF vrN vrA vrE vrC vrF) sz) (fun (u : Unit) => wdR cI cJ cZ aR aE aC aF vrN vrA vrE vrC vrF)) (va_A (wdR cI cJ cZ aR aE aC aF vrN vrA vrE vrC vrF) sz)) 0 0 (va_A (wdR cI cJ cZ aR aE aC aF vrN vrA vrE vrC vrF) sz) := by
  refine km_i (cc := cX1_placeOf) (maxL := 3) (by decide) rfl (Nat.le_of_ble_eq_true rfl) ?_
  intro p e s m below meth c A Q ls hx hb hml hts hown hnm hK hN hA hP hD hS hl hret
  replace hown : s.vm.findClass RX1 = some m.cls := hown
  replace hl : lv_has ls 3 [(0, .ref aR), (1, .int x1), (2, .int x2)] := hl
  unfold w_X1_placeOf at hw
  refine lv_aload_n hx hb dX1_placeOf_0 rfl (lv_at hl 0 rfl) ?_
  refine va_get (D := G) (ci := 1) (v := .ref aE) (C := RX1) (T := TX1) (N := 5) hx hb hts (fun _ h => List.mem_cons_of_mem _ (List.mem_append_right _ h)) hown hK hP 0 rfl rfl 2 (by decide) (hts _ (List.mem_of_getElem? (i := 1) rfl)) (fun _ h9 => h9) rfl dX1_placeOf_1 ?_
  refine lv_aload_n hx hb dX1_placeOf_4 rfl (lv_at hl 0 rfl) ?_
  refine va_get (D := G) (ci := 1) (v := .ref aF) (C := RX1) (T := TX1) (N := 5) hx hb hts (fun _ h => List.mem_cons_of_mem _ (List.mem_append_right _ h)) hown hK hP 0 rfl rfl 4 (by decide) (hts _ (List.mem_of_getElem? (i := 2) rfl)) (fun _ h9 => h9) rfl dX1_placeOf_5 ?_
  refine lv_iload_n hx hb dX1_placeOf_8 rfl (lv_at hl 1 rfl) ?_
  have h_1 := hw.1
  replace hw := hw.2
  refine va_iald hx hb hK hP 3 0 rfl rfl h_1 dX1_placeOf_9 ?_
  refine lv_aload_n hx hb dX1_placeOf_10 rfl (lv_at hl 0 rfl) ?_
  refine va_get (D := G) (ci := 1) (v := .ref aF) (C := RX1) (T := TX1) (N := 5) hx hb hts (fun _ h => List.mem_cons_of_mem _ (List.mem_append_right _ h)) hown hK hP 0 rfl rfl 4 (by decide) (hts _ (List.mem_of_getElem? (i := 2) rfl)) (fun _ h9 => h9) rfl dX1_placeOf_11 ?_
  refine lv_iload_n hx hb dX1_placeOf_14 rfl (lv_at hl 1 rfl) ?_
  refine lv_iconst (v := (1 : Int32)) hx hb dX1_placeOf_15 (by decide) ?_
  refine lv_iadd hx hb dX1_placeOf_16 ?_
  have h_2 := hw.1
  replace hw := hw.2
  refine va_iald hx hb hK hP 3 0 rfl rfl h_2 dX1_placeOf_17 ?_
  refine lv_iload_n hx hb dX1_placeOf_18 rfl (lv_at hl 1 rfl) ?_
  refine lv_iload_n hx hb dX1_placeOf_19 rfl (lv_at hl 2 rfl) ?_
  refine kc_Si (As := [.int x1, .int x2]) (rest := [.int (vrF (x1 + (1 : Int32)).toNatClampNeg), .int (vrF x1.toNatClampNeg), .ref aE]) (wc := []) (wr := [(aR, .inr (1, [.int vrN, .int vrA, .ref aE, .ref aC, .ref aF])), (aE, .inl (cI, 4000, .inl vrE)), (aC, .inl (cI, 4000, .inl vrC)), (aF, .inl (cI, 301, .inl vrF))]) ⟨hx, hb, hml, hown, hts⟩ (va_cwS 2 hts gX1_placeOf_X1_key rfl rfl rfl (by decide +kernel) ⟨Nat.le_of_ble_eq_true rfl, Nat.le_of_ble_eq_true rfl⟩) hK hN hA hP hD hS [] [0, 1, 2, 3] rfl rfl (by decide) (by decide) (by decide) (k_X1_key l G cI cJ cZ  _ N  x1 x2 _ hw) rfl hl.1 rfl (Nat.le_of_ble_eq_true rfl) dX1_placeOf_20 ⟨Nat.le_of_ble_eq_true rfl, Nat.le_of_ble_eq_true rfl⟩ (fun r_3 u_ H locs hw hP hD hS => ?_)
  replace hP : va_P G vwCl (wdR cI cJ cZ aR aE aC aF vrN vrA vrE vrC vrF) H := hP.sub [0, 1, 2, 3] rfl
  replace hD : va_D A (wdR cI cJ cZ aR aE aC aF vrN vrA vrE vrC vrF) := hD.sub [0, 1, 2, 3] (by decide) rfl
  refine kc_SNi (As := [.ref aE, .int (vrF x1.toNatClampNeg), .int (vrF (x1 + (1 : Int32)).toNatClampNeg), .int r_3]) (rest := []) (wc := wdP cI cJ cZ aE 4000 vrE) (wr := [(aR, .inr (1, [.int vrN, .int vrA, .ref aE, .ref aC, .ref aF])), (aC, .inl (cI, 4000, .inl vrC)), (aF, .inl (cI, 301, .inl vrF))]) ⟨hx, hb, hml, hown, hts⟩ ⟨va_cnB 4 hts gX1_placeOf_X4_placeIn_n52 rfl rfl rfl (hN _ (List.mem_of_getElem? (i := 6) rfl)) (hts _ (List.mem_of_getElem? (i := 8) rfl)) (by decide +kernel) ⟨Nat.le_of_ble_eq_true rfl, Nat.le_of_ble_eq_true rfl⟩, hts _ (List.mem_of_getElem? (i := 7) rfl), trivial⟩ hK hN hA hP hD hS [1] [0, 2, 3] rfl rfl (by decide) (by decide) (by decide) (k_X4_placeIn l G cI cJ cZ aE 4000 _ N vrE (vrF x1.toNatClampNeg) (vrF (x1 + (1 : Int32)).toNatClampNeg) r_3 _ hw) rfl hl.1 rfl (Nat.le_of_ble_eq_true rfl) dX1_placeOf_23 ⟨Nat.le_of_ble_eq_true rfl, Nat.le_of_ble_eq_true rfl⟩ (fun r_4 u_ H locs hw hP hD hS => ?_)
  replace hP : va_P G vwCl (wdR cI cJ cZ aR aE aC aF vrN vrA vrE vrC vrF) H := hP.sub [0, 3, 1, 2] rfl
  replace hD : va_D A (wdR cI cJ cZ aR aE aC aF vrN vrA vrE vrC vrF) := hD.sub [0, 3, 1, 2] (by decide) rfl
  exact hret 26 r_4 () _ _ _ dX1_placeOf_26 hw hP hD hS
def w_X1_find (N : Nat) (vrN : Int32) (vrE : Nat → Int32) (vrF : Nat → Int32) (x1 : Int32) (x2 : Int32) (post : Int32 → Prop) : Prop :=
  w_X1_hasNode N vrN x1 (fun r_1 => ((r_1 = (0 : Int32) → post (-1 : Int32)) ∧ (¬ (r_1 = (0 : Int32)) → w_X1_hasNode N vrN x2 (fun r_3 => ((¬ r_3 = (0 : Int32) → w_X1_placeOf N vrE vrF x1 x2 (fun r_5 => vp_in (x1 + (1 : Int32)) 301 ∧ (((vrF (x1 + (1 : Int32)).toNatClampNeg) ≤ r_5 → post (-1 : Int32)) ∧ (¬ ((vrF (x1 + (1 : Int32)).toNatClampNeg) ≤ r_5) → vp_in r_5 4000 ∧ w_X1_key N x1 x2 (fun r_9 => ((¬ (vrE r_5.toNatClampNeg) = r_9 → post (-1 : Int32)) ∧ ((vrE r_5.toNatClampNeg) = r_9 → post r_5))))))) ∧ (r_3 = (0 : Int32) → post (-1 : Int32)))))))
abbrev rm_X1_find : Room := { frames := 2, cells := 0, slots := 0, locals := 48 }
set_option maxHeartbeats 4000000 in
set_option maxRecDepth 100000 in
theorem k_X1_find (l : Launch) (G : va_G) (cI cJ cZ : ClassId) (aR aE aC aF : Nat) (sz N : Nat) (vrN : Int32) (vrA : Int32) (vrE : Nat → Int32) (vrC : Nat → Int32) (vrF : Nat → Int32) (x1 : Int32) (x2 : Int32) (post : Int32 → Prop) (hw : w_X1_find N vrN vrE vrF x1 x2 post) : Met l yX1_find wsX1_find rm_X1_find (kPc G (tyL cI cJ cZ) [.ref aR, .int x1, .int x2] sz (wdR cI cJ cZ aR aE aC aF vrN vrA vrE vrC vrF)) (va_Qi (fun (r : Int32) (u : Unit) => post r ) (kB G (tyL cI cJ cZ) (va_A (wdR cI cJ cZ aR aE aC aF vrN vrA vrE vrC vrF) sz) (fun (u : Unit) => wdR cI cJ cZ aR aE aC aF vrN vrA vrE vrC vrF)) (va_A (wdR cI cJ cZ aR aE aC aF vrN vrA vrE vrC vrF) sz)) 0 0 (va_A (wdR cI cJ cZ aR aE aC aF vrN vrA vrE vrC vrF) sz) := by
  refine km_i (cc := cX1_find) (maxL := 4) (by decide) rfl (Nat.le_of_ble_eq_true rfl) ?_
  intro p e s m below meth c A Q ls hx hb hml hts hown hnm hK hN hA hP hD hS hl hret
  replace hown : s.vm.findClass RX1 = some m.cls := hown
  replace hl : lv_has ls 4 [(0, .ref aR), (1, .int x1), (2, .int x2)] := hl
  unfold w_X1_find at hw
  refine lv_aload_n hx hb dX1_find_0 rfl (lv_at hl 0 rfl) ?_
  refine lv_iload_n hx hb dX1_find_1 rfl (lv_at hl 1 rfl) ?_
  refine kc_Vi (As := [.int x1]) (rest := []) (wc := wdR cI cJ cZ aR aE aC aF vrN vrA vrE vrC vrF) (wr := []) ⟨hx, hb, hml, hown, hts⟩ (cwV 1 hts gX1_find_X1_hasNode rfl rfl rfl (by decide +kernel) ⟨Nat.le_of_ble_eq_true rfl, Nat.le_of_ble_eq_true rfl⟩) hK hN hA hP hD hS [0, 1, 2, 3] [] rfl rfl (by decide) (by decide) (by decide) 0 rfl rfl (k_X1_hasNode l G cI cJ cZ aR aE aC aF _ N vrN vrA vrE vrC vrF x1 _ hw) rfl hl.1 rfl (Nat.le_of_ble_eq_true rfl) dX1_find_2 ⟨Nat.le_of_ble_eq_true rfl, Nat.le_of_ble_eq_true rfl⟩ (fun r_1 u_ H locs hw hP hD hS => ?_)
  replace hP : va_P G vwCl (wdR cI cJ cZ aR aE aC aF vrN vrA vrE vrC vrF) H := hP.sub [0, 1, 2, 3] rfl
  replace hD : va_D A (wdR cI cJ cZ aR aE aC aF vrN vrA vrE vrC vrF) := hD.sub [0, 1, 2, 3] (by decide) rfl
  refine lv_if_eq (tgt := 16) hx hb dX1_find_5 (by decide) (fun c_2 => ?_) (fun c_2 => ?_)
  · replace hw := hw.1 c_2
    refine lv_iconst (v := (-1 : Int32)) hx hb dX1_find_16 (by decide) ?_
    exact hret 17 (-1 : Int32) () _ _ _ dX1_find_17 hw hP hD hS
  · replace hw := hw.2 c_2
    refine lv_aload_n hx hb dX1_find_8 rfl (lv_at hl 0 rfl) ?_
    refine lv_iload_n hx hb dX1_find_9 rfl (lv_at hl 2 rfl) ?_
    refine kc_Vi (As := [.int x2]) (rest := []) (wc := wdR cI cJ cZ aR aE aC aF vrN vrA vrE vrC vrF) (wr := []) ⟨hx, hb, hml, hown, hts⟩ (cwV 1 hts gX1_find_X1_hasNode rfl rfl rfl (by decide +kernel) ⟨Nat.le_of_ble_eq_true rfl, Nat.le_of_ble_eq_true rfl⟩) hK hN hA hP hD hS [0, 1, 2, 3] [] rfl rfl (by decide) (by decide) (by decide) 0 rfl rfl (k_X1_hasNode l G cI cJ cZ aR aE aC aF _ N vrN vrA vrE vrC vrF x2 _ hw) rfl hl.1 rfl (Nat.le_of_ble_eq_true rfl) dX1_find_10 ⟨Nat.le_of_ble_eq_true rfl, Nat.le_of_ble_eq_true rfl⟩ (fun r_3 u_ H locs hw hP hD hS => ?_)
    replace hP : va_P G vwCl (wdR cI cJ cZ aR aE aC aF vrN vrA vrE vrC vrF) H := hP.sub [0, 1, 2, 3] rfl
    replace hD : va_D A (wdR cI cJ cZ aR aE aC aF vrN vrA vrE vrC vrF) := hD.sub [0, 1, 2, 3] (by decide) rfl
    refine lv_if_ne (tgt := 18) hx hb dX1_find_13 (by decide) (fun c_4 => ?_) (fun c_4 => ?_)
    · replace hw := hw.1 c_4
      refine lv_aload_n hx hb dX1_find_18 rfl (lv_at hl 0 rfl) ?_
      refine lv_iload_n hx hb dX1_find_19 rfl (lv_at hl 1 rfl) ?_
      refine lv_iload_n hx hb dX1_find_20 rfl (lv_at hl 2 rfl) ?_
      refine kc_Vi (As := [.int x1, .int x2]) (rest := []) (wc := wdR cI cJ cZ aR aE aC aF vrN vrA vrE vrC vrF) (wr := []) ⟨hx, hb, hml, hown, hts⟩ (cwV 2 hts gX1_find_X1_placeOf rfl rfl rfl (by decide +kernel) ⟨Nat.le_of_ble_eq_true rfl, Nat.le_of_ble_eq_true rfl⟩) hK hN hA hP hD hS [0, 1, 2, 3] [] rfl rfl (by decide) (by decide) (by decide) 0 rfl rfl (k_X1_placeOf l G cI cJ cZ aR aE aC aF _ N vrN vrA vrE vrC vrF x1 x2 _ hw) rfl hl.1 rfl (Nat.le_of_ble_eq_true rfl) dX1_find_21 ⟨Nat.le_of_ble_eq_true rfl, Nat.le_of_ble_eq_true rfl⟩ (fun r_5 u_ H locs hw hP hD hS => ?_)
      replace hP : va_P G vwCl (wdR cI cJ cZ aR aE aC aF vrN vrA vrE vrC vrF) H := hP.sub [0, 1, 2, 3] rfl
      replace hD : va_D A (wdR cI cJ cZ aR aE aC aF vrN vrA vrE vrC vrF) := hD.sub [0, 1, 2, 3] (by decide) rfl
      refine lv_istore_n (lv' := [(3, .int r_5), (0, .ref aR), (1, .int x1), (2, .int x2)]) hx hb dX1_find_24 rfl hl (by decide) rfl (fun ls hl => ?_)
      refine lv_iload_n hx hb dX1_find_25 rfl (lv_at hl 0 rfl) ?_
      refine lv_aload_n hx hb dX1_find_26 rfl (lv_at hl 1 rfl) ?_
      refine va_get (D := G) (ci := 1) (v := .ref aF) (C := RX1) (T := TX1) (N := 5) hx hb hts (fun _ h => List.mem_cons_of_mem _ (List.mem_append_right _ h)) hown hK hP 0 rfl rfl 4 (by decide) (hts _ (List.mem_of_getElem? (i := 1) rfl)) (fun _ h9 => h9) rfl dX1_find_27 ?_
      refine lv_iload_n hx hb dX1_find_30 rfl (lv_at hl 2 rfl) ?_
      refine lv_iconst (v := (1 : Int32)) hx hb dX1_find_31 (by decide) ?_
      refine lv_iadd hx hb dX1_find_32 ?_
      have h_6 := hw.1
      replace hw := hw.2
      refine va_iald hx hb hK hP 3 0 rfl rfl h_6 dX1_find_33 ?_
      refine lv_icmp_ge (tgt := 55) hx hb dX1_find_34 (by decide) (fun c_7 => ?_) (fun c_7 => ?_)
      · replace hw := hw.1 c_7
        refine lv_iconst (v := (-1 : Int32)) hx hb dX1_find_55 (by decide) ?_
        exact hret 56 (-1 : Int32) () _ _ _ dX1_find_56 hw hP hD hS
      · replace hw := hw.2 c_7
        refine lv_aload_n hx hb dX1_find_37 rfl (lv_at hl 1 rfl) ?_
        refine va_get (D := G) (ci := 1) (v := .ref aE) (C := RX1) (T := TX1) (N := 5) hx hb hts (fun _ h => List.mem_cons_of_mem _ (List.mem_append_right _ h)) hown hK hP 0 rfl rfl 2 (by decide) (hts _ (List.mem_of_getElem? (i := 2) rfl)) (fun _ h9 => h9) rfl dX1_find_38 ?_
        refine lv_iload_n hx hb dX1_find_41 rfl (lv_at hl 0 rfl) ?_
        have h_8 := hw.1
        replace hw := hw.2
        refine va_iald hx hb hK hP 1 0 rfl rfl h_8 dX1_find_42 ?_
        refine lv_iload_n hx hb dX1_find_43 rfl (lv_at hl 2 rfl) ?_
        refine lv_iload_n hx hb dX1_find_44 rfl (lv_at hl 3 rfl) ?_
        refine kc_Si (As := [.int x1, .int x2]) (rest := [.int (vrE r_5.toNatClampNeg)]) (wc := []) (wr := [(aR, .inr (1, [.int vrN, .int vrA, .ref aE, .ref aC, .ref aF])), (aE, .inl (cI, 4000, .inl vrE)), (aC, .inl (cI, 4000, .inl vrC)), (aF, .inl (cI, 301, .inl vrF))]) ⟨hx, hb, hml, hown, hts⟩ (va_cwS 2 hts gX1_find_X1_key rfl rfl rfl (by decide +kernel) ⟨Nat.le_of_ble_eq_true rfl, Nat.le_of_ble_eq_true rfl⟩) hK hN hA hP hD hS [] [0, 1, 2, 3] rfl rfl (by decide) (by decide) (by decide) (k_X1_key l G cI cJ cZ  _ N  x1 x2 _ hw) rfl hl.1 rfl (Nat.le_of_ble_eq_true rfl) dX1_find_45 ⟨Nat.le_of_ble_eq_true rfl, Nat.le_of_ble_eq_true rfl⟩ (fun r_9 u_ H locs hw hP hD hS => ?_)
        replace hP : va_P G vwCl (wdR cI cJ cZ aR aE aC aF vrN vrA vrE vrC vrF) H := hP.sub [0, 1, 2, 3] rfl
        replace hD : va_D A (wdR cI cJ cZ aR aE aC aF vrN vrA vrE vrC vrF) := hD.sub [0, 1, 2, 3] (by decide) rfl
        refine lv_icmp_ne (tgt := 55) hx hb dX1_find_48 (by decide) (fun c_10 => ?_) (fun c_10 => ?_)
        · replace hw := hw.1 c_10
          refine lv_iconst (v := (-1 : Int32)) hx hb dX1_find_55 (by decide) ?_
          exact hret 56 (-1 : Int32) () _ _ _ dX1_find_56 hw hP hD hS
        · replace hw := hw.2 c_10
          refine lv_iload_n hx hb dX1_find_51 rfl (lv_at hl 0 rfl) ?_
          refine lv_goto (tgt := 56) hx hb dX1_find_52 (by decide) ?_
          exact hret 56 r_5 () _ _ _ dX1_find_56 hw hP hD hS
    · replace hw := hw.2 c_4
      refine lv_iconst (v := (-1 : Int32)) hx hb dX1_find_16 (by decide) ?_
      exact hret 17 (-1 : Int32) () _ _ _ dX1_find_17 hw hP hD hS
def w_X1_signedCost (N : Nat) (vrN : Int32) (vrE : Nat → Int32) (vrC : Nat → Int32) (vrF : Nat → Int32) (x1 : Int32) (x2 : Int32) (post : Int32 → Prop) : Prop :=
  w_X1_find N vrN vrE vrF x1 x2 (fun r_1 => ((¬ r_1 = (-1 : Int32) → vp_in r_1 4000 ∧ post (vrC r_1.toNatClampNeg)) ∧ (r_1 = (-1 : Int32) → post (0 : Int32))))
abbrev rm_X1_signedCost : Room := { frames := 3, cells := 0, slots := 0, locals := 71 }
set_option maxHeartbeats 4000000 in
set_option maxRecDepth 100000 in
theorem k_X1_signedCost (l : Launch) (G : va_G) (cI cJ cZ : ClassId) (aR aE aC aF : Nat) (sz N : Nat) (vrN : Int32) (vrA : Int32) (vrE : Nat → Int32) (vrC : Nat → Int32) (vrF : Nat → Int32) (x1 : Int32) (x2 : Int32) (post : Int32 → Prop) (hw : w_X1_signedCost N vrN vrE vrC vrF x1 x2 post) : Met l yX1_signedCost wsX1_signedCost rm_X1_signedCost (kPc G (tyL cI cJ cZ) [.ref aR, .int x1, .int x2] sz (wdR cI cJ cZ aR aE aC aF vrN vrA vrE vrC vrF)) (va_Qi (fun (r : Int32) (u : Unit) => post r ) (kB G (tyL cI cJ cZ) (va_A (wdR cI cJ cZ aR aE aC aF vrN vrA vrE vrC vrF) sz) (fun (u : Unit) => wdR cI cJ cZ aR aE aC aF vrN vrA vrE vrC vrF)) (va_A (wdR cI cJ cZ aR aE aC aF vrN vrA vrE vrC vrF) sz)) 0 0 (va_A (wdR cI cJ cZ aR aE aC aF vrN vrA vrE vrC vrF) sz) := by
  refine km_i (cc := cX1_signedCost) (maxL := 4) (by decide) rfl (Nat.le_of_ble_eq_true rfl) ?_
  intro p e s m below meth c A Q ls hx hb hml hts hown hnm hK hN hA hP hD hS hl hret
  replace hown : s.vm.findClass RX1 = some m.cls := hown
  replace hl : lv_has ls 4 [(0, .ref aR), (1, .int x1), (2, .int x2)] := hl
  unfold w_X1_signedCost at hw
  refine lv_aload_n hx hb dX1_signedCost_0 rfl (lv_at hl 0 rfl) ?_
  refine lv_iload_n hx hb dX1_signedCost_1 rfl (lv_at hl 1 rfl) ?_
  refine lv_iload_n hx hb dX1_signedCost_2 rfl (lv_at hl 2 rfl) ?_
  refine kc_Vi (As := [.int x1, .int x2]) (rest := []) (wc := wdR cI cJ cZ aR aE aC aF vrN vrA vrE vrC vrF) (wr := []) ⟨hx, hb, hml, hown, hts⟩ (cwV 2 hts gX1_signedCost_X1_find rfl rfl rfl (by decide +kernel) ⟨Nat.le_of_ble_eq_true rfl, Nat.le_of_ble_eq_true rfl⟩) hK hN hA hP hD hS [0, 1, 2, 3] [] rfl rfl (by decide) (by decide) (by decide) 0 rfl rfl (k_X1_find l G cI cJ cZ aR aE aC aF _ N vrN vrA vrE vrC vrF x1 x2 _ hw) rfl hl.1 rfl (Nat.le_of_ble_eq_true rfl) dX1_signedCost_3 ⟨Nat.le_of_ble_eq_true rfl, Nat.le_of_ble_eq_true rfl⟩ (fun r_1 u_ H locs hw hP hD hS => ?_)
  replace hP : va_P G vwCl (wdR cI cJ cZ aR aE aC aF vrN vrA vrE vrC vrF) H := hP.sub [0, 1, 2, 3] rfl
  replace hD : va_D A (wdR cI cJ cZ aR aE aC aF vrN vrA vrE vrC vrF) := hD.sub [0, 1, 2, 3] (by decide) rfl
  refine lv_istore_n (lv' := [(3, .int r_1), (0, .ref aR), (1, .int x1), (2, .int x2)]) hx hb dX1_signedCost_6 rfl hl (by decide) rfl (fun ls hl => ?_)
  refine lv_iload_n hx hb dX1_signedCost_7 rfl (lv_at hl 0 rfl) ?_
  refine lv_iconst (v := (-1 : Int32)) hx hb dX1_signedCost_8 (by decide) ?_
  refine lv_icmp_ne (tgt := 16) hx hb dX1_signedCost_9 (by decide) (fun c_2 => ?_) (fun c_2 => ?_)
  · replace hw := hw.1 c_2
    refine lv_aload_n hx hb dX1_signedCost_16 rfl (lv_at hl 1 rfl) ?_
    refine va_get (D := G) (ci := 1) (v := .ref aC) (C := RX1) (T := TX1) (N := 5) hx hb hts (fun _ h => List.mem_cons_of_mem _ (List.mem_append_right _ h)) hown hK hP 0 rfl rfl 3 (by decide) (hts _ (List.mem_of_getElem? (i := 1) rfl)) (fun _ h9 => h9) rfl dX1_signedCost_17 ?_
    refine lv_iload_n hx hb dX1_signedCost_20 rfl (lv_at hl 0 rfl) ?_
    have h_3 := hw.1
    replace hw := hw.2
    refine va_iald hx hb hK hP 2 0 rfl rfl h_3 dX1_signedCost_21 ?_
    exact hret 22 (vrC r_1.toNatClampNeg) () _ _ _ dX1_signedCost_22 hw hP hD hS
  · replace hw := hw.2 c_2
    refine lv_iconst (v := (0 : Int32)) hx hb dX1_signedCost_12 (by decide) ?_
    refine lv_goto (tgt := 22) hx hb dX1_signedCost_13 (by decide) ?_
    exact hret 22 (0 : Int32) () _ _ _ dX1_signedCost_22 hw hP hD hS
def w_X1_change (N : Nat) (vrN : Int32) (vrE : Nat → Int32) (vrC : Nat → Int32) (vrF : Nat → Int32) (x1 : Int32) (x2 : Int32) (x3 : Int32) (post : (Nat → Int32) → Prop) : Prop :=
  w_X1_find N vrN vrE vrF x1 x2 (fun r_1 => w_X1_find N vrN vrE vrF x2 x1 (fun r_2 => ((r_1 = (-1 : Int32) → post vrC) ∧ (¬ (r_1 = (-1 : Int32)) → ((¬ r_2 = (-1 : Int32) → vp_in r_1 4000 ∧ vp_in r_2 4000 ∧ post (upd (upd vrC r_1.toNatClampNeg x3) r_2.toNatClampNeg x3)) ∧ (r_2 = (-1 : Int32) → post vrC))))))
abbrev rm_X1_change : Room := { frames := 3, cells := 0, slots := 0, locals := 71 }
set_option maxHeartbeats 4000000 in
set_option maxRecDepth 100000 in
theorem k_X1_change (l : Launch) (G : va_G) (cI cJ cZ : ClassId) (aR aE aC aF : Nat) (sz N : Nat) (vrN : Int32) (vrA : Int32) (vrE : Nat → Int32) (vrC : Nat → Int32) (vrF : Nat → Int32) (x1 : Int32) (x2 : Int32) (x3 : Int32) (post : (Nat → Int32) → Prop) (hw : w_X1_change N vrN vrE vrC vrF x1 x2 x3 post) : Met l yX1_change wsX1_change rm_X1_change (kPc G (tyL cI cJ cZ) [.ref aR, .int x1, .int x2, .int x3] sz (wdR cI cJ cZ aR aE aC aF vrN vrA vrE vrC vrF)) (va_Qv (fun (u : (Nat → Int32)) => post u) (kB G (tyL cI cJ cZ) (va_A (wdR cI cJ cZ aR aE aC aF vrN vrA vrE vrC vrF) sz) (fun (u : (Nat → Int32)) => wdR cI cJ cZ aR aE aC aF vrN vrA vrE u vrF)) (va_A (wdR cI cJ cZ aR aE aC aF vrN vrA vrE vrC vrF) sz)) 0 0 (va_A (wdR cI cJ cZ aR aE aC aF vrN vrA vrE vrC vrF) sz) := by
  refine km_v (cc := cX1_change) (maxL := 6) (by decide) rfl (Nat.le_of_ble_eq_true rfl) ?_
  intro p e s m below meth c A Q ls hx hb hml hts hown hnm hK hN hA hP hD hS hl hret
  replace hown : s.vm.findClass RX1 = some m.cls := hown
  replace hl : lv_has ls 6 [(0, .ref aR), (1, .int x1), (2, .int x2), (3, .int x3)] := hl
  unfold w_X1_change at hw
  refine lv_aload_n hx hb dX1_change_0 rfl (lv_at hl 0 rfl) ?_
  refine lv_iload_n hx hb dX1_change_1 rfl (lv_at hl 1 rfl) ?_
  refine lv_iload_n hx hb dX1_change_2 rfl (lv_at hl 2 rfl) ?_
  refine kc_Vi (As := [.int x1, .int x2]) (rest := []) (wc := wdR cI cJ cZ aR aE aC aF vrN vrA vrE vrC vrF) (wr := []) ⟨hx, hb, hml, hown, hts⟩ (cwV 2 hts gX1_change_X1_find rfl rfl rfl (by decide +kernel) ⟨Nat.le_of_ble_eq_true rfl, Nat.le_of_ble_eq_true rfl⟩) hK hN hA hP hD hS [0, 1, 2, 3] [] rfl rfl (by decide) (by decide) (by decide) 0 rfl rfl (k_X1_find l G cI cJ cZ aR aE aC aF _ N vrN vrA vrE vrC vrF x1 x2 _ hw) rfl hl.1 rfl (Nat.le_of_ble_eq_true rfl) dX1_change_3 ⟨Nat.le_of_ble_eq_true rfl, Nat.le_of_ble_eq_true rfl⟩ (fun r_1 u_ H locs hw hP hD hS => ?_)
  replace hP : va_P G vwCl (wdR cI cJ cZ aR aE aC aF vrN vrA vrE vrC vrF) H := hP.sub [0, 1, 2, 3] rfl
  replace hD : va_D A (wdR cI cJ cZ aR aE aC aF vrN vrA vrE vrC vrF) := hD.sub [0, 1, 2, 3] (by decide) rfl
  refine lv_istore (lv' := [(4, .int r_1), (0, .ref aR), (1, .int x1), (2, .int x2), (3, .int x3)]) hx hb dX1_change_6 hl (by decide) rfl (fun ls hl => ?_)
  refine lv_aload_n hx hb dX1_change_8 rfl (lv_at hl 1 rfl) ?_
  refine lv_iload_n hx hb dX1_change_9 rfl (lv_at hl 3 rfl) ?_
  refine lv_iload_n hx hb dX1_change_10 rfl (lv_at hl 2 rfl) ?_
  refine kc_Vi (As := [.int x2, .int x1]) (rest := []) (wc := wdR cI cJ cZ aR aE aC aF vrN vrA vrE vrC vrF) (wr := []) ⟨hx, hb, hml, hown, hts⟩ (cwV 2 hts gX1_change_X1_find rfl rfl rfl (by decide +kernel) ⟨Nat.le_of_ble_eq_true rfl, Nat.le_of_ble_eq_true rfl⟩) hK hN hA hP hD hS [0, 1, 2, 3] [] rfl rfl (by decide) (by decide) (by decide) 0 rfl rfl (k_X1_find l G cI cJ cZ aR aE aC aF _ N vrN vrA vrE vrC vrF x2 x1 _ hw) rfl hl.1 rfl (Nat.le_of_ble_eq_true rfl) dX1_change_11 ⟨Nat.le_of_ble_eq_true rfl, Nat.le_of_ble_eq_true rfl⟩ (fun r_2 u_ H locs hw hP hD hS => ?_)
  replace hP : va_P G vwCl (wdR cI cJ cZ aR aE aC aF vrN vrA vrE vrC vrF) H := hP.sub [0, 1, 2, 3] rfl
  replace hD : va_D A (wdR cI cJ cZ aR aE aC aF vrN vrA vrE vrC vrF) := hD.sub [0, 1, 2, 3] (by decide) rfl
  refine lv_istore (lv' := [(5, .int r_2), (4, .int r_1), (0, .ref aR), (1, .int x1), (2, .int x2), (3, .int x3)]) hx hb dX1_change_14 hl (by decide) rfl (fun ls hl => ?_)
  refine lv_iload hx hb dX1_change_16 (lv_at hl 1 rfl) ?_
  refine lv_iconst (v := (-1 : Int32)) hx hb dX1_change_18 (by decide) ?_
  refine lv_icmp_eq (tgt := 28) hx hb dX1_change_19 (by decide) (fun c_3 => ?_) (fun c_3 => ?_)
  · replace hw := hw.1 c_3
    exact hret 28 (vrC) _ _ _ dX1_change_28 hw hP hD hS
  · replace hw := hw.2 c_3
    refine lv_iload hx hb dX1_change_22 (lv_at hl 0 rfl) ?_
    refine lv_iconst (v := (-1 : Int32)) hx hb dX1_change_24 (by decide) ?_
    refine lv_icmp_ne (tgt := 29) hx hb dX1_change_25 (by decide) (fun c_4 => ?_) (fun c_4 => ?_)
    · replace hw := hw.1 c_4
      refine lv_aload_n hx hb dX1_change_29 rfl (lv_at hl 2 rfl) ?_
      refine va_get (D := G) (ci := 1) (v := .ref aC) (C := RX1) (T := TX1) (N := 5) hx hb hts (fun _ h => List.mem_cons_of_mem _ (List.mem_append_right _ h)) hown hK hP 0 rfl rfl 3 (by decide) (hts _ (List.mem_of_getElem? (i := 1) rfl)) (fun _ h9 => h9) rfl dX1_change_30 ?_
      refine lv_iload hx hb dX1_change_33 (lv_at hl 1 rfl) ?_
      refine lv_iload_n hx hb dX1_change_35 rfl (lv_at hl 5 rfl) ?_
      have h_5 := hw.1
      replace hw := hw.2
      refine va_iast hx hb hK hP hD hS 2 0 rfl rfl h_5 dX1_change_36 (fun H locs hP hD hS => ?_)
      replace hP : va_P G vwCl (wdR cI cJ cZ aR aE aC aF vrN vrA vrE (upd vrC r_1.toNatClampNeg x3) vrF) H := hP
      replace hD : va_D A (wdR cI cJ cZ aR aE aC aF vrN vrA vrE (upd vrC r_1.toNatClampNeg x3) vrF) := hD
      refine lv_aload_n hx hb dX1_change_37 rfl (lv_at hl 2 rfl) ?_
      refine va_get (D := G) (ci := 1) (v := .ref aC) (C := RX1) (T := TX1) (N := 5) hx hb hts (fun _ h => List.mem_cons_of_mem _ (List.mem_append_right _ h)) hown hK hP 0 rfl rfl 3 (by decide) (hts _ (List.mem_of_getElem? (i := 1) rfl)) (fun _ h9 => h9) rfl dX1_change_38 ?_
      refine lv_iload hx hb dX1_change_41 (lv_at hl 0 rfl) ?_
      refine lv_iload_n hx hb dX1_change_43 rfl (lv_at hl 5 rfl) ?_
      have h_6 := hw.1
      replace hw := hw.2
      refine va_iast hx hb hK hP hD hS 2 0 rfl rfl h_6 dX1_change_44 (fun H locs hP hD hS => ?_)
      replace hP : va_P G vwCl (wdR cI cJ cZ aR aE aC aF vrN vrA vrE (upd (upd vrC r_1.toNatClampNeg x3) r_2.toNatClampNeg x3) vrF) H := hP
      replace hD : va_D A (wdR cI cJ cZ aR aE aC aF vrN vrA vrE (upd (upd vrC r_1.toNatClampNeg x3) r_2.toNatClampNeg x3) vrF) := hD
      exact hret 45 ((upd (upd vrC r_1.toNatClampNeg x3) r_2.toNatClampNeg x3)) _ _ _ dX1_change_45 hw hP hD hS
    · replace hw := hw.2 c_4
      exact hret 28 (vrC) _ _ _ dX1_change_28 hw hP hD hS
def w_X1_addArc_b55_B (N : Nat)  (post : Int32 → (Nat → Int32) → (Nat → Int32) → (Nat → Int32) → Prop) (k55 : Int32 → (Nat → Int32) → (Nat → Int32) → (Nat → Int32) → Int32 → Prop) (vrA_b55 : Int32) (vrE_b55 : Nat → Int32) (vrC_b55 : Nat → Int32) (vrF_b55 : Nat → Int32) (x5_b55 : Int32) : Prop :=
  (((301 : Int32) ≤ x5_b55 → post vrA_b55 vrE_b55 vrC_b55 vrF_b55) ∧ (¬ ((301 : Int32) ≤ x5_b55) → vp_in x5_b55 301 ∧ ∀ x5_11 : Int32, x5_11 = x5_b55 + (1 : Int32) → k55 vrA_b55 vrE_b55 vrC_b55 (upd vrF_b55 x5_b55.toNatClampNeg ((vrF_b55 x5_b55.toNatClampNeg) + (1 : Int32))) x5_11))
def w_X1_addArc_b55 (N : Nat)  (post : Int32 → (Nat → Int32) → (Nat → Int32) → (Nat → Int32) → Prop) : Nat → Int32 → (Nat → Int32) → (Nat → Int32) → (Nat → Int32) → Int32 → Prop
  | 0, _, _, _, _, _ => False
  | n + 1, vrA_b55, vrE_b55, vrC_b55, vrF_b55, x5_b55 => w_X1_addArc_b55_B N post (w_X1_addArc_b55 N post n) vrA_b55 vrE_b55 vrC_b55 vrF_b55 x5_b55
def w_X1_addArc (N : Nat) (vrA : Int32) (vrE : Nat → Int32) (vrC : Nat → Int32) (vrF : Nat → Int32) (x1 : Int32) (x2 : Int32) (x3 : Int32) (post : Int32 → (Nat → Int32) → (Nat → Int32) → (Nat → Int32) → Prop) : Prop :=
  w_X1_placeOf N vrE vrF x1 x2 (fun r_1 => w_X1_key N x1 x2 (fun r_2 => w_X4_insert N vrE 4000 vrA r_1 r_2 (fun vrE_4 => w_X4_insert N vrC 4000 vrA r_1 x3 (fun vrC_6 => ∀ x5_7 : Int32, x5_7 = (x1 + (1 : Int32)) → w_X1_addArc_b55 N  post N (vrA + (1 : Int32)) vrE_4 vrC_6 vrF x5_7))))
abbrev rm_X1_addArc : Room := { frames := 2, cells := 0, slots := 0, locals := 63 }
set_option maxHeartbeats 4000000 in
set_option maxRecDepth 100000 in
theorem k_X1_addArc (l : Launch) (G : va_G) (cI cJ cZ : ClassId) (aR aE aC aF : Nat) (sz N : Nat) (vrN : Int32) (vrA : Int32) (vrE : Nat → Int32) (vrC : Nat → Int32) (vrF : Nat → Int32) (x1 : Int32) (x2 : Int32) (x3 : Int32) (post : Int32 → (Nat → Int32) → (Nat → Int32) → (Nat → Int32) → Prop) (hw : w_X1_addArc N vrA vrE vrC vrF x1 x2 x3 post) : Met l yX1_addArc wsX1_addArc rm_X1_addArc (kPc G (tyL cI cJ cZ) [.ref aR, .int x1, .int x2, .int x3] sz (wdR cI cJ cZ aR aE aC aF vrN vrA vrE vrC vrF)) (va_Qv (fun (u : Int32 × (Nat → Int32) × (Nat → Int32) × (Nat → Int32)) => post u.1 u.2.1 u.2.2.1 u.2.2.2) (kB G (tyL cI cJ cZ) (va_A (wdR cI cJ cZ aR aE aC aF vrN vrA vrE vrC vrF) sz) (fun (u : Int32 × (Nat → Int32) × (Nat → Int32) × (Nat → Int32)) => wdR cI cJ cZ aR aE aC aF vrN u.1 u.2.1 u.2.2.1 u.2.2.2)) (va_A (wdR cI cJ cZ aR aE aC aF vrN vrA vrE vrC vrF) sz)) 0 0 (va_A (wdR cI cJ cZ aR aE aC aF vrN vrA vrE vrC vrF) sz) := by
  refine km_v (cc := cX1_addArc) (maxL := 6) (by decide) rfl (Nat.le_of_ble_eq_true rfl) ?_
  intro p e s m below meth c A Q ls hx hb hml hts hown hnm hK hN hA hP hD hS hl hret
  replace hown : s.vm.findClass RX1 = some m.cls := hown
  replace hl : lv_has ls 6 [(0, .ref aR), (1, .int x1), (2, .int x2), (3, .int x3)] := hl
  have b55 : ∀ (n55 : Nat) (vrA_b55 : Int32) (vrE_b55 : Nat → Int32) (vrC_b55 : Nat → Int32) (vrF_b55 : Nat → Int32) (x5_b55 : Int32) (H : Heap) (locs : List Loc) (ls : Array Slot), w_X1_addArc_b55 N post n55 vrA_b55 vrE_b55 vrC_b55 vrF_b55 x5_b55 → va_P G vwCl (wdR cI cJ cZ aR aE aC aF vrN vrA_b55 vrE_b55 vrC_b55 vrF_b55) H → va_D A (wdR cI cJ cZ aR aE aC aF vrN vrA_b55 vrE_b55 vrC_b55 vrF_b55) → va_S A s.heap H locs → lv_has ls 6 [(0, .ref aR), (5, .int x5_b55)] → W p l e rm_X1_addArc s m ([.ref aR, .int x1, .int x2, .int x3] : List Value).toArray below meth c H locs 0 0 Q (F0 m 55 ls []) := by
    intro n55
    induction n55 with
    | zero => intro vrA_b55 vrE_b55 vrC_b55 vrF_b55 x5_b55 H locs ls hw; exact hw.elim
    | succ n55 ih55 =>
      intro vrA_b55 vrE_b55 vrC_b55 vrF_b55 x5_b55 H locs ls hw hP hD hS hl
      replace hw : w_X1_addArc_b55_B N post (w_X1_addArc_b55 N post n55) vrA_b55 vrE_b55 vrC_b55 vrF_b55 x5_b55 := hw
      unfold w_X1_addArc_b55_B at hw
      refine lv_iload hx hb dX1_addArc_55 (lv_at hl 1 rfl) ?_
      refine lv_aload_n hx hb dX1_addArc_57 rfl (lv_at hl 0 rfl) ?_
      refine va_get (D := G) (ci := 1) (v := .ref aF) (C := RX1) (T := TX1) (N := 5) hx hb hts (fun _ h => List.mem_cons_of_mem _ (List.mem_append_right _ h)) hown hK hP 0 rfl rfl 4 (by decide) (hts _ (List.mem_of_getElem? (i := 4) rfl)) (fun _ h9 => h9) rfl dX1_addArc_58 ?_
      refine va_alen (v := (301 : Int32)) hx hb hK hP 3 0 rfl rfl rfl dX1_addArc_61 ?_
      refine lv_icmp_ge (tgt := 82) hx hb dX1_addArc_62 (by decide) (fun c_9 => ?_) (fun c_9 => ?_)
      · replace hw := hw.1 c_9
        exact hret 82 (vrA_b55, vrE_b55, vrC_b55, vrF_b55) _ _ _ dX1_addArc_82 hw hP hD hS
      · replace hw := hw.2 c_9
        refine lv_aload_n hx hb dX1_addArc_65 rfl (lv_at hl 0 rfl) ?_
        refine va_get (D := G) (ci := 1) (v := .ref aF) (C := RX1) (T := TX1) (N := 5) hx hb hts (fun _ h => List.mem_cons_of_mem _ (List.mem_append_right _ h)) hown hK hP 0 rfl rfl 4 (by decide) (hts _ (List.mem_of_getElem? (i := 4) rfl)) (fun _ h9 => h9) rfl dX1_addArc_66 ?_
        refine lv_iload hx hb dX1_addArc_69 (lv_at hl 1 rfl) ?_
        refine lv_dup2_11 hx hb dX1_addArc_71 rfl rfl ?_
        have h_10 := hw.1
        replace hw := hw.2
        refine va_iald hx hb hK hP 3 0 rfl rfl h_10 dX1_addArc_72 ?_
        refine lv_iconst (v := (1 : Int32)) hx hb dX1_addArc_73 (by decide) ?_
        refine lv_iadd hx hb dX1_addArc_74 ?_
        refine va_iast hx hb hK hP hD hS 3 0 rfl rfl h_10 dX1_addArc_75 (fun H locs hP hD hS => ?_)
        replace hP : va_P G vwCl (wdR cI cJ cZ aR aE aC aF vrN vrA_b55 vrE_b55 vrC_b55 (upd vrF_b55 x5_b55.toNatClampNeg ((vrF_b55 x5_b55.toNatClampNeg) + (1 : Int32)))) H := hP
        replace hD : va_D A (wdR cI cJ cZ aR aE aC aF vrN vrA_b55 vrE_b55 vrC_b55 (upd vrF_b55 x5_b55.toNatClampNeg ((vrF_b55 x5_b55.toNatClampNeg) + (1 : Int32)))) := hD
        obtain ⟨x5_11, e_12⟩ : ∃ y : Int32, y = x5_b55 + (1 : Int32) := ⟨_, rfl⟩
        replace hw := hw x5_11 e_12
        refine lv_iinc (v := x5_11) (lv' := [(5, .int x5_11), (0, .ref aR)]) hx hb dX1_addArc_76 hl (k := 1) rfl (by rw [e_12]; rfl) (by decide) rfl (fun ls hl => ?_)
        refine lv_goto (tgt := 55) hx hb dX1_addArc_79 (by decide) ?_
        replace hl : lv_has ls 6 [(0, .ref aR), (5, .int x5_11)] := lv_sub hl [1, 0] rfl
        exact ih55 vrA_b55 vrE_b55 vrC_b55 (upd vrF_b55 x5_b55.toNatClampNeg ((vrF_b55 x5_b55.toNatClampNeg) + (1 : Int32))) x5_11 _ _ _ hw hP hD hS hl
  unfold w_X1_addArc at hw
  refine lv_aload_n hx hb dX1_addArc_0 rfl (lv_at hl 0 rfl) ?_
  refine lv_iload_n hx hb dX1_addArc_1 rfl (lv_at hl 1 rfl) ?_
  refine lv_iload_n hx hb dX1_addArc_2 rfl (lv_at hl 2 rfl) ?_
  refine kc_Vi (As := [.int x1, .int x2]) (rest := []) (wc := wdR cI cJ cZ aR aE aC aF vrN vrA vrE vrC vrF) (wr := []) ⟨hx, hb, hml, hown, hts⟩ (cwV 2 hts gX1_addArc_X1_placeOf rfl rfl rfl (by decide +kernel) ⟨Nat.le_of_ble_eq_true rfl, Nat.le_of_ble_eq_true rfl⟩) hK hN hA hP hD hS [0, 1, 2, 3] [] rfl rfl (by decide) (by decide) (by decide) 0 rfl rfl (k_X1_placeOf l G cI cJ cZ aR aE aC aF _ N vrN vrA vrE vrC vrF x1 x2 _ hw) rfl hl.1 rfl (Nat.le_of_ble_eq_true rfl) dX1_addArc_3 ⟨Nat.le_of_ble_eq_true rfl, Nat.le_of_ble_eq_true rfl⟩ (fun r_1 u_ H locs hw hP hD hS => ?_)
  replace hP : va_P G vwCl (wdR cI cJ cZ aR aE aC aF vrN vrA vrE vrC vrF) H := hP.sub [0, 1, 2, 3] rfl
  replace hD : va_D A (wdR cI cJ cZ aR aE aC aF vrN vrA vrE vrC vrF) := hD.sub [0, 1, 2, 3] (by decide) rfl
  refine lv_istore (lv' := [(4, .int r_1), (0, .ref aR), (1, .int x1), (2, .int x2), (3, .int x3)]) hx hb dX1_addArc_6 hl (by decide) rfl (fun ls hl => ?_)
  refine lv_aload_n hx hb dX1_addArc_8 rfl (lv_at hl 1 rfl) ?_
  refine va_get (D := G) (ci := 1) (v := .ref aE) (C := RX1) (T := TX1) (N := 5) hx hb hts (fun _ h => List.mem_cons_of_mem _ (List.mem_append_right _ h)) hown hK hP 0 rfl rfl 2 (by decide) (hts _ (List.mem_of_getElem? (i := 1) rfl)) (fun _ h9 => h9) rfl dX1_addArc_9 ?_
  refine lv_aload_n hx hb dX1_addArc_12 rfl (lv_at hl 1 rfl) ?_
  refine va_get (D := G) (ci := 1) (v := .int vrA) (C := RX1) (T := TX1) (N := 5) hx hb hts (fun _ h => List.mem_cons_of_mem _ (List.mem_append_right _ h)) hown hK hP 0 rfl rfl 1 (by decide) (hts _ (List.mem_of_getElem? (i := 2) rfl)) (fun _ h9 => h9) rfl dX1_addArc_13 ?_
  refine lv_iload hx hb dX1_addArc_16 (lv_at hl 0 rfl) ?_
  refine lv_iload_n hx hb dX1_addArc_18 rfl (lv_at hl 2 rfl) ?_
  refine lv_iload_n hx hb dX1_addArc_19 rfl (lv_at hl 3 rfl) ?_
  refine kc_Si (As := [.int x1, .int x2]) (rest := [.int r_1, .int vrA, .ref aE]) (wc := []) (wr := [(aR, .inr (1, [.int vrN, .int vrA, .ref aE, .ref aC, .ref aF])), (aE, .inl (cI, 4000, .inl vrE)), (aC, .inl (cI, 4000, .inl vrC)), (aF, .inl (cI, 301, .inl vrF))]) ⟨hx, hb, hml, hown, hts⟩ (va_cwS 2 hts gX1_addArc_X1_key rfl rfl rfl (by decide +kernel) ⟨Nat.le_of_ble_eq_true rfl, Nat.le_of_ble_eq_true rfl⟩) hK hN hA hP hD hS [] [0, 1, 2, 3] rfl rfl (by decide) (by decide) (by decide) (k_X1_key l G cI cJ cZ  _ N  x1 x2 _ hw) rfl hl.1 rfl (Nat.le_of_ble_eq_true rfl) dX1_addArc_20 ⟨Nat.le_of_ble_eq_true rfl, Nat.le_of_ble_eq_true rfl⟩ (fun r_2 u_ H locs hw hP hD hS => ?_)
  replace hP : va_P G vwCl (wdR cI cJ cZ aR aE aC aF vrN vrA vrE vrC vrF) H := hP.sub [0, 1, 2, 3] rfl
  replace hD : va_D A (wdR cI cJ cZ aR aE aC aF vrN vrA vrE vrC vrF) := hD.sub [0, 1, 2, 3] (by decide) rfl
  refine kc_SNv (As := [.ref aE, .int vrA, .int r_1, .int r_2]) (rest := []) (wc := wdP cI cJ cZ aE 4000 vrE) (wr := [(aR, .inr (1, [.int vrN, .int vrA, .ref aE, .ref aC, .ref aF])), (aC, .inl (cI, 4000, .inl vrC)), (aF, .inl (cI, 301, .inl vrF))]) ⟨hx, hb, hml, hown, hts⟩ ⟨va_cnB 4 hts gX1_addArc_X4_insert_n48 rfl rfl rfl (hN _ (List.mem_of_getElem? (i := 5) rfl)) (hts _ (List.mem_of_getElem? (i := 14) rfl)) (by decide +kernel) ⟨Nat.le_of_ble_eq_true rfl, Nat.le_of_ble_eq_true rfl⟩, hts _ (List.mem_of_getElem? (i := 16) rfl), trivial⟩ hK hN hA hP hD hS [1] [0, 2, 3] rfl rfl (by decide) (by decide) (by decide) (k_X4_insert l G cI cJ cZ aE 4000 _ N vrE vrA r_1 r_2 _ hw) rfl hl.1 rfl (Nat.le_of_ble_eq_true rfl) dX1_addArc_23 ⟨Nat.le_of_ble_eq_true rfl, Nat.le_of_ble_eq_true rfl⟩ (fun u_ H locs hw hP hD hS => ?_)
  obtain ⟨vrE_4, hu_⟩ : ∃ z, z = u_ := ⟨_, rfl⟩
  subst hu_
  replace hP : va_P G vwCl (wdR cI cJ cZ aR aE aC aF vrN vrA vrE_4 vrC vrF) H := hP.sub [0, 3, 1, 2] rfl
  replace hD : va_D A (wdR cI cJ cZ aR aE aC aF vrN vrA vrE_4 vrC vrF) := hD.sub [0, 3, 1, 2] (by decide) rfl
  refine lv_aload_n hx hb dX1_addArc_26 rfl (lv_at hl 1 rfl) ?_
  refine va_get (D := G) (ci := 1) (v := .ref aC) (C := RX1) (T := TX1) (N := 5) hx hb hts (fun _ h => List.mem_cons_of_mem _ (List.mem_append_right _ h)) hown hK hP 0 rfl rfl 3 (by decide) (hts _ (List.mem_of_getElem? (i := 3) rfl)) (fun _ h9 => h9) rfl dX1_addArc_27 ?_
  refine lv_aload_n hx hb dX1_addArc_30 rfl (lv_at hl 1 rfl) ?_
  refine va_get (D := G) (ci := 1) (v := .int vrA) (C := RX1) (T := TX1) (N := 5) hx hb hts (fun _ h => List.mem_cons_of_mem _ (List.mem_append_right _ h)) hown hK hP 0 rfl rfl 1 (by decide) (hts _ (List.mem_of_getElem? (i := 2) rfl)) (fun _ h9 => h9) rfl dX1_addArc_31 ?_
  refine lv_iload hx hb dX1_addArc_34 (lv_at hl 0 rfl) ?_
  refine lv_iload_n hx hb dX1_addArc_36 rfl (lv_at hl 4 rfl) ?_
  refine kc_SNv (As := [.ref aC, .int vrA, .int r_1, .int x3]) (rest := []) (wc := wdP cI cJ cZ aC 4000 vrC) (wr := [(aR, .inr (1, [.int vrN, .int vrA, .ref aE, .ref aC, .ref aF])), (aE, .inl (cI, 4000, .inl vrE_4)), (aF, .inl (cI, 301, .inl vrF))]) ⟨hx, hb, hml, hown, hts⟩ ⟨va_cnB 4 hts gX1_addArc_X4_insert_n48 rfl rfl rfl (hN _ (List.mem_of_getElem? (i := 5) rfl)) (hts _ (List.mem_of_getElem? (i := 14) rfl)) (by decide +kernel) ⟨Nat.le_of_ble_eq_true rfl, Nat.le_of_ble_eq_true rfl⟩, hts _ (List.mem_of_getElem? (i := 16) rfl), trivial⟩ hK hN hA hP hD hS [2] [0, 1, 3] rfl rfl (by decide) (by decide) (by decide) (k_X4_insert l G cI cJ cZ aC 4000 _ N vrC vrA r_1 x3 _ hw) rfl hl.1 rfl (Nat.le_of_ble_eq_true rfl) dX1_addArc_37 ⟨Nat.le_of_ble_eq_true rfl, Nat.le_of_ble_eq_true rfl⟩ (fun u_ H locs hw hP hD hS => ?_)
  obtain ⟨vrC_6, hu_⟩ : ∃ z, z = u_ := ⟨_, rfl⟩
  subst hu_
  replace hP : va_P G vwCl (wdR cI cJ cZ aR aE aC aF vrN vrA vrE_4 vrC_6 vrF) H := hP.sub [0, 1, 3, 2] rfl
  replace hD : va_D A (wdR cI cJ cZ aR aE aC aF vrN vrA vrE_4 vrC_6 vrF) := hD.sub [0, 1, 3, 2] (by decide) rfl
  refine lv_aload_n hx hb dX1_addArc_40 rfl (lv_at hl 1 rfl) ?_
  refine lv_dup hx hb dX1_addArc_41 rfl ?_
  refine va_get (D := G) (ci := 1) (v := .int vrA) (C := RX1) (T := TX1) (N := 5) hx hb hts (fun _ h => List.mem_cons_of_mem _ (List.mem_append_right _ h)) hown hK hP 0 rfl rfl 1 (by decide) (hts _ (List.mem_of_getElem? (i := 2) rfl)) (fun _ h9 => h9) rfl dX1_addArc_42 ?_
  refine lv_iconst (v := (1 : Int32)) hx hb dX1_addArc_45 (by decide) ?_
  refine lv_iadd hx hb dX1_addArc_46 ?_
  refine va_put (D := G) (ci := 1) (v := .int (vrA + (1 : Int32))) (ty := .int) (C := RX1) (T := TX1) (N := 5) hx hb hts (fun _ h => List.mem_cons_of_mem _ (List.mem_append_right _ h)) tyX1 tyX1_ok nmX1 hown hK hP hD hS 0 rfl rfl 1 (by decide) (hts _ (List.mem_of_getElem? (i := 2) rfl)) (fun _ h9 => h9) rfl (by decide +kernel) rfl rfl (Nat.le_of_ble_eq_true rfl) dX1_addArc_47 (fun H locs hP hD hS => ?_)
  replace hP : va_P G vwCl (wdR cI cJ cZ aR aE aC aF vrN (vrA + (1 : Int32)) vrE_4 vrC_6 vrF) H := hP
  replace hD : va_D A (wdR cI cJ cZ aR aE aC aF vrN (vrA + (1 : Int32)) vrE_4 vrC_6 vrF) := hD
  refine lv_iload_n hx hb dX1_addArc_50 rfl (lv_at hl 2 rfl) ?_
  refine lv_iconst (v := (1 : Int32)) hx hb dX1_addArc_51 (by decide) ?_
  refine lv_iadd hx hb dX1_addArc_52 ?_
  refine lv_topi (fun x5_7 e_8 => ?_)
  replace hw := hw x5_7 e_8
  refine lv_istore (lv' := [(5, .int x5_7), (4, .int r_1), (0, .ref aR), (1, .int x1), (2, .int x2), (3, .int x3)]) hx hb dX1_addArc_53 hl (by decide) rfl (fun ls hl => ?_)
  replace hl : lv_has ls 6 [(0, .ref aR), (5, .int x5_7)] := lv_sub hl [2, 0] rfl
  exact b55 N (vrA + (1 : Int32)) vrE_4 vrC_6 vrF x5_7 _ _ _ hw hP hD hS hl
def w_X1_add (N : Nat) (vrA : Int32) (vrE : Nat → Int32) (vrC : Nat → Int32) (vrF : Nat → Int32) (x1 : Int32) (x2 : Int32) (x3 : Int32) (post : Int32 → (Nat → Int32) → (Nat → Int32) → (Nat → Int32) → Prop) : Prop :=
  w_X1_addArc N vrA vrE vrC vrF x1 x2 x3 (fun vrA_2 vrE_3 vrC_4 vrF_5 => w_X1_addArc N vrA_2 vrE_3 vrC_4 vrF_5 x2 x1 x3 (fun vrA_7 vrE_8 vrC_9 vrF_10 => post vrA_7 vrE_8 vrC_9 vrF_10))
abbrev rm_X1_add : Room := { frames := 3, cells := 0, slots := 0, locals := 88 }
set_option maxHeartbeats 4000000 in
set_option maxRecDepth 100000 in
theorem k_X1_add (l : Launch) (G : va_G) (cI cJ cZ : ClassId) (aR aE aC aF : Nat) (sz N : Nat) (vrN : Int32) (vrA : Int32) (vrE : Nat → Int32) (vrC : Nat → Int32) (vrF : Nat → Int32) (x1 : Int32) (x2 : Int32) (x3 : Int32) (post : Int32 → (Nat → Int32) → (Nat → Int32) → (Nat → Int32) → Prop) (hw : w_X1_add N vrA vrE vrC vrF x1 x2 x3 post) : Met l yX1_add wsX1_add rm_X1_add (kPc G (tyL cI cJ cZ) [.ref aR, .int x1, .int x2, .int x3] sz (wdR cI cJ cZ aR aE aC aF vrN vrA vrE vrC vrF)) (va_Qv (fun (u : Int32 × (Nat → Int32) × (Nat → Int32) × (Nat → Int32)) => post u.1 u.2.1 u.2.2.1 u.2.2.2) (kB G (tyL cI cJ cZ) (va_A (wdR cI cJ cZ aR aE aC aF vrN vrA vrE vrC vrF) sz) (fun (u : Int32 × (Nat → Int32) × (Nat → Int32) × (Nat → Int32)) => wdR cI cJ cZ aR aE aC aF vrN u.1 u.2.1 u.2.2.1 u.2.2.2)) (va_A (wdR cI cJ cZ aR aE aC aF vrN vrA vrE vrC vrF) sz)) 0 0 (va_A (wdR cI cJ cZ aR aE aC aF vrN vrA vrE vrC vrF) sz) := by
  refine km_v (cc := cX1_add) (maxL := 4) (by decide) rfl (Nat.le_of_ble_eq_true rfl) ?_
  intro p e s m below meth c A Q ls hx hb hml hts hown hnm hK hN hA hP hD hS hl hret
  replace hown : s.vm.findClass RX1 = some m.cls := hown
  replace hl : lv_has ls 4 [(0, .ref aR), (1, .int x1), (2, .int x2), (3, .int x3)] := hl
  unfold w_X1_add at hw
  refine lv_aload_n hx hb dX1_add_0 rfl (lv_at hl 0 rfl) ?_
  refine lv_iload_n hx hb dX1_add_1 rfl (lv_at hl 1 rfl) ?_
  refine lv_iload_n hx hb dX1_add_2 rfl (lv_at hl 2 rfl) ?_
  refine lv_iload_n hx hb dX1_add_3 rfl (lv_at hl 3 rfl) ?_
  refine kc_Vv (As := [.int x1, .int x2, .int x3]) (rest := []) (wc := wdR cI cJ cZ aR aE aC aF vrN vrA vrE vrC vrF) (wr := []) ⟨hx, hb, hml, hown, hts⟩ (cwV 3 hts gX1_add_X1_addArc rfl rfl rfl (by decide +kernel) ⟨Nat.le_of_ble_eq_true rfl, Nat.le_of_ble_eq_true rfl⟩) hK hN hA hP hD hS [0, 1, 2, 3] [] rfl rfl (by decide) (by decide) (by decide) 0 rfl rfl (k_X1_addArc l G cI cJ cZ aR aE aC aF _ N vrN vrA vrE vrC vrF x1 x2 x3 _ hw) rfl hl.1 rfl (Nat.le_of_ble_eq_true rfl) dX1_add_4 ⟨Nat.le_of_ble_eq_true rfl, Nat.le_of_ble_eq_true rfl⟩ (fun u_ H locs hw hP hD hS => ?_)
  obtain ⟨vrA_2, vrE_3, vrC_4, vrF_5⟩ := u_
  replace hP : va_P G vwCl (wdR cI cJ cZ aR aE aC aF vrN vrA_2 vrE_3 vrC_4 vrF_5) H := hP.sub [0, 1, 2, 3] rfl
  replace hD : va_D A (wdR cI cJ cZ aR aE aC aF vrN vrA_2 vrE_3 vrC_4 vrF_5) := hD.sub [0, 1, 2, 3] (by decide) rfl
  refine lv_aload_n hx hb dX1_add_7 rfl (lv_at hl 0 rfl) ?_
  refine lv_iload_n hx hb dX1_add_8 rfl (lv_at hl 2 rfl) ?_
  refine lv_iload_n hx hb dX1_add_9 rfl (lv_at hl 1 rfl) ?_
  refine lv_iload_n hx hb dX1_add_10 rfl (lv_at hl 3 rfl) ?_
  refine kc_Vv (As := [.int x2, .int x1, .int x3]) (rest := []) (wc := wdR cI cJ cZ aR aE aC aF vrN vrA_2 vrE_3 vrC_4 vrF_5) (wr := []) ⟨hx, hb, hml, hown, hts⟩ (cwV 3 hts gX1_add_X1_addArc rfl rfl rfl (by decide +kernel) ⟨Nat.le_of_ble_eq_true rfl, Nat.le_of_ble_eq_true rfl⟩) hK hN hA hP hD hS [0, 1, 2, 3] [] rfl rfl (by decide) (by decide) (by decide) 0 rfl rfl (k_X1_addArc l G cI cJ cZ aR aE aC aF _ N vrN vrA_2 vrE_3 vrC_4 vrF_5 x2 x1 x3 _ hw) rfl hl.1 rfl (Nat.le_of_ble_eq_true rfl) dX1_add_11 ⟨Nat.le_of_ble_eq_true rfl, Nat.le_of_ble_eq_true rfl⟩ (fun u_ H locs hw hP hD hS => ?_)
  obtain ⟨vrA_7, vrE_8, vrC_9, vrF_10⟩ := u_
  replace hP : va_P G vwCl (wdR cI cJ cZ aR aE aC aF vrN vrA_7 vrE_8 vrC_9 vrF_10) H := hP.sub [0, 1, 2, 3] rfl
  replace hD : va_D A (wdR cI cJ cZ aR aE aC aF vrN vrA_7 vrE_8 vrC_9 vrF_10) := hD.sub [0, 1, 2, 3] (by decide) rfl
  exact hret 14 (vrA_7, vrE_8, vrC_9, vrF_10) _ _ _ dX1_add_14 hw hP hD hS
