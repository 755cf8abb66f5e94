def w_X0_add_b28_B (N : Nat) (vhW : Nat → Int64) (x1 : Int32) (post : Int32 → (Nat → Int32) → Prop) (k28 : Int32 → (Nat → Int32) → Int32 → Prop) (vhN_b28 : Int32) (vhA_b28 : Nat → Int32) (x2_b28 : Int32) : Prop :=
  ((x2_b28 ≤ (0 : Int32) → vp_in x2_b28 4000 ∧ post vhN_b28 (upd vhA_b28 x2_b28.toNatClampNeg x1)) ∧ (¬ (x2_b28 ≤ (0 : Int32)) → ∀ x3_4 : Int32, x3_4 = ((x2_b28 - (1 : Int32)) / (2 : Int32)) → vp_in x3_4 4000 ∧ vp_in (vhA_b28 x3_4.toNatClampNeg) 4000 ∧ vp_in x1 4000 ∧ (((0 : Int32) < (lg_cmp (vhW (vhA_b28 x3_4.toNatClampNeg).toNatClampNeg) (vhW x1.toNatClampNeg)) → vp_in x2_b28 4000 ∧ k28 vhN_b28 (upd vhA_b28 x2_b28.toNatClampNeg (vhA_b28 x3_4.toNatClampNeg)) x3_4) ∧ (¬ ((0 : Int32) < (lg_cmp (vhW (vhA_b28 x3_4.toNatClampNeg).toNatClampNeg) (vhW x1.toNatClampNeg))) → vp_in x2_b28 4000 ∧ post vhN_b28 (upd vhA_b28 x2_b28.toNatClampNeg x1)))))
def w_X0_add_b28 (N : Nat) (vhW : Nat → Int64) (x1 : Int32) (post : Int32 → (Nat → Int32) → Prop) : Nat → Int32 → (Nat → Int32) → Int32 → Prop
  | 0, _, _, _ => False
  | n + 1, vhN_b28, vhA_b28, x2_b28 => w_X0_add_b28_B N vhW x1 post (w_X0_add_b28 N vhW x1 post n) vhN_b28 vhA_b28 x2_b28
def w_X0_add (N : Nat) (vhN : Int32) (vhW : Nat → Int64) (vhA : Nat → Int32) (x1 : Int32) (post : Int32 → (Nat → Int32) → Prop) : Prop :=
  ((vhN < (4000 : Int32) → w_X0_add_b28 N vhW x1 post N (vhN + (1 : Int32)) vhA vhN) ∧ (¬ (vhN < (4000 : Int32)) → post vhN vhA))
abbrev rm_X0_add : Room := { frames := 0, cells := 0, slots := 0, locals := 0 }
set_option maxHeartbeats 4000000 in
set_option maxRecDepth 100000 in
theorem k_X0_add (l : Launch) (G : va_G) (cI cJ cZ : ClassId) (aH aW aA : Nat) (sz N : Nat) (vhN : Int32) (vhW : Nat → Int64) (vhA : Nat → Int32) (x1 : Int32) (post : Int32 → (Nat → Int32) → Prop) (hw : w_X0_add N vhN vhW vhA x1 post) : Met l yX0_add wsX0_add rm_X0_add (kPc G (tyL cI cJ cZ) [.ref aH, .int x1] sz (wdH cI cJ cZ aH aW aA vhN vhW vhA)) (va_Qv (fun (u : Int32 × (Nat → Int32)) => post u.1 u.2) (kB G (tyL cI cJ cZ) (va_A (wdH cI cJ cZ aH aW aA vhN vhW vhA) sz) (fun (u : Int32 × (Nat → Int32)) => wdH cI cJ cZ aH aW aA u.1 vhW u.2)) (va_A (wdH cI cJ cZ aH aW aA vhN vhW vhA) sz)) 0 0 (va_A (wdH cI cJ cZ aH aW aA vhN vhW vhA) sz) := by
  refine km_v (cc := cX0_add) (maxL := 4) (by decide) rfl (Nat.le_of_ble_eq_true rfl) ?_
  intro p e s m below meth c A Q ls hx hb hml hts hown hnm hK hN hA hP hD hS hl hret
  replace hown : s.vm.findClass RX0 = some m.cls := hown
  replace hl : lv_has ls 4 [(0, .ref aH), (1, .int x1)] := hl
  have b28 : ∀ (n28 : Nat) (vhN_b28 : Int32) (vhA_b28 : Nat → Int32) (x2_b28 : Int32) (H : Heap) (locs : List Loc) (ls : Array Slot), w_X0_add_b28 N vhW x1 post n28 vhN_b28 vhA_b28 x2_b28 → va_P G vwCl (wdH cI cJ cZ aH aW aA vhN_b28 vhW vhA_b28) H → va_D A (wdH cI cJ cZ aH aW aA vhN_b28 vhW vhA_b28) → va_S A s.heap H locs → lv_has ls 4 [(0, .ref aH), (1, .int x1), (2, .int x2_b28)] → W p l e rm_X0_add s m ([.ref aH, .int x1] : List Value).toArray below meth c H locs 0 0 Q (F0 m 28 ls []) := by
    intro n28
    induction n28 with
    | zero => intro vhN_b28 vhA_b28 x2_b28 H locs ls hw; exact hw.elim
    | succ n28 ih28 =>
      intro vhN_b28 vhA_b28 x2_b28 H locs ls hw hP hD hS hl
      replace hw : w_X0_add_b28_B N vhW x1 post (w_X0_add_b28 N vhW x1 post n28) vhN_b28 vhA_b28 x2_b28 := hw
      unfold w_X0_add_b28_B at hw
      refine lv_iload_n hx hb dX0_add_28 rfl (lv_at hl 2 rfl) ?_
      refine lv_if_le (tgt := 79) hx hb dX0_add_29 (by decide) (fun c_2 => ?_) (fun c_2 => ?_)
      · replace hw := hw.1 c_2
        refine lv_aload_n hx hb dX0_add_79 rfl (lv_at hl 0 rfl) ?_
        refine va_get (D := G) (ci := 0) (v := .ref aA) (C := RX0) (T := TX0) (N := 3) hx hb hts (fun _ h => List.mem_cons_of_mem _ (List.mem_append_right _ h)) hown hK hP 0 rfl rfl 1 (by decide) (hts _ (List.mem_of_getElem? (i := 2) rfl)) (fun _ h9 => h9) rfl dX0_add_80 ?_
        refine lv_iload_n hx hb dX0_add_83 rfl (lv_at hl 2 rfl) ?_
        refine lv_iload_n hx hb dX0_add_84 rfl (lv_at hl 1 rfl) ?_
        have h_3 := hw.1
        replace hw := hw.2
        refine va_iast hx hb hK hP hD hS 2 0 rfl rfl h_3 dX0_add_85 (fun H locs hP hD hS => ?_)
        replace hP : va_P G vwCl (wdH cI cJ cZ aH aW aA vhN_b28 vhW (upd vhA_b28 x2_b28.toNatClampNeg x1)) H := hP
        replace hD : va_D A (wdH cI cJ cZ aH aW aA vhN_b28 vhW (upd vhA_b28 x2_b28.toNatClampNeg x1)) := hD
        exact hret 86 (vhN_b28, (upd vhA_b28 x2_b28.toNatClampNeg x1)) _ _ _ dX0_add_86 hw hP hD hS
      · replace hw := hw.2 c_2
        refine lv_iload_n hx hb dX0_add_32 rfl (lv_at hl 2 rfl) ?_
        refine lv_iconst (v := (1 : Int32)) hx hb dX0_add_33 (by decide) ?_
        refine lv_isub hx hb dX0_add_34 ?_
        refine lv_iconst (v := (2 : Int32)) hx hb dX0_add_35 (by decide) ?_
        refine lv_idiv hx hb dX0_add_36 (by decide) ?_
        refine lv_topi (fun x3_4 e_5 => ?_)
        replace hw := hw x3_4 e_5
        refine lv_istore_n (lv' := [(3, .int x3_4), (0, .ref aH), (1, .int x1), (2, .int x2_b28)]) hx hb dX0_add_37 rfl hl (by decide) rfl (fun ls hl => ?_)
        refine lv_aload_n hx hb dX0_add_38 rfl (lv_at hl 1 rfl) ?_
        refine va_get (D := G) (ci := 0) (v := .ref aW) (C := RX0) (T := TX0) (N := 3) hx hb hts (fun _ h => List.mem_cons_of_mem _ (List.mem_append_right _ h)) hown hK hP 0 rfl rfl 0 (by decide) (hts _ (List.mem_of_getElem? (i := 3) rfl)) (fun _ h9 => h9) rfl dX0_add_39 ?_
        refine lv_aload_n hx hb dX0_add_42 rfl (lv_at hl 1 rfl) ?_
        refine va_get (D := G) (ci := 0) (v := .ref aA) (C := RX0) (T := TX0) (N := 3) hx hb hts (fun _ h => List.mem_cons_of_mem _ (List.mem_append_right _ h)) hown hK hP 0 rfl rfl 1 (by decide) (hts _ (List.mem_of_getElem? (i := 2) rfl)) (fun _ h9 => h9) rfl dX0_add_43 ?_
        refine lv_iload_n hx hb dX0_add_46 rfl (lv_at hl 0 rfl) ?_
        have h_6 := hw.1
        replace hw := hw.2
        refine va_iald hx hb hK hP 2 0 rfl rfl h_6 dX0_add_47 ?_
        have h_7 := hw.1
        replace hw := hw.2
        refine va_lald hx hb hK hP 1 1 rfl rfl h_7 dX0_add_48 ?_
        refine lv_aload_n hx hb dX0_add_49 rfl (lv_at hl 1 rfl) ?_
        refine va_get (D := G) (ci := 0) (v := .ref aW) (C := RX0) (T := TX0) (N := 3) hx hb hts (fun _ h => List.mem_cons_of_mem _ (List.mem_append_right _ h)) hown hK hP 0 rfl rfl 0 (by decide) (hts _ (List.mem_of_getElem? (i := 3) rfl)) (fun _ h9 => h9) rfl dX0_add_50 ?_
        refine lv_iload_n hx hb dX0_add_53 rfl (lv_at hl 2 rfl) ?_
        have h_8 := hw.1
        replace hw := hw.2
        refine va_lald hx hb hK hP 1 1 rfl rfl h_8 dX0_add_54 ?_
        refine W.lcmp hx hb dX0_add_55 ?_
        refine lv_if_gt (tgt := 62) hx hb dX0_add_56 (by decide) (fun c_9 => ?_) (fun c_9 => ?_)
        · replace hw := hw.1 c_9
          refine lv_aload_n hx hb dX0_add_62 rfl (lv_at hl 1 rfl) ?_
          refine va_get (D := G) (ci := 0) (v := .ref aA) (C := RX0) (T := TX0) (N := 3) hx hb hts (fun _ h => List.mem_cons_of_mem _ (List.mem_append_right _ h)) hown hK hP 0 rfl rfl 1 (by decide) (hts _ (List.mem_of_getElem? (i := 2) rfl)) (fun _ h9 => h9) rfl dX0_add_63 ?_
          refine lv_iload_n hx hb dX0_add_66 rfl (lv_at hl 3 rfl) ?_
          refine lv_aload_n hx hb dX0_add_67 rfl (lv_at hl 1 rfl) ?_
          refine va_get (D := G) (ci := 0) (v := .ref aA) (C := RX0) (T := TX0) (N := 3) hx hb hts (fun _ h => List.mem_cons_of_mem _ (List.mem_append_right _ h)) hown hK hP 0 rfl rfl 1 (by decide) (hts _ (List.mem_of_getElem? (i := 2) rfl)) (fun _ h9 => h9) rfl dX0_add_68 ?_
          refine lv_iload_n hx hb dX0_add_71 rfl (lv_at hl 0 rfl) ?_
          refine va_iald hx hb hK hP 2 0 rfl rfl h_6 dX0_add_72 ?_
          have h_10 := hw.1
          replace hw := hw.2
          refine va_iast hx hb hK hP hD hS 2 0 rfl rfl h_10 dX0_add_73 (fun H locs hP hD hS => ?_)
          replace hP : va_P G vwCl (wdH cI cJ cZ aH aW aA vhN_b28 vhW (upd vhA_b28 x2_b28.toNatClampNeg (vhA_b28 x3_4.toNatClampNeg))) H := hP
          replace hD : va_D A (wdH cI cJ cZ aH aW aA vhN_b28 vhW (upd vhA_b28 x2_b28.toNatClampNeg (vhA_b28 x3_4.toNatClampNeg))) := hD
          refine lv_iload_n hx hb dX0_add_74 rfl (lv_at hl 0 rfl) ?_
          refine lv_istore_n (lv' := [(2, .int x3_4), (3, .int x3_4), (0, .ref aH), (1, .int x1)]) hx hb dX0_add_75 rfl hl (by decide) rfl (fun ls hl => ?_)
          refine lv_goto (tgt := 28) hx hb dX0_add_76 (by decide) ?_
          replace hl : lv_has ls 4 [(0, .ref aH), (1, .int x1), (2, .int x3_4)] := lv_sub hl [2, 3, 0] rfl
          exact ih28 vhN_b28 (upd vhA_b28 x2_b28.toNatClampNeg (vhA_b28 x3_4.toNatClampNeg)) x3_4 _ _ _ hw hP hD hS hl
        · replace hw := hw.2 c_9
          refine lv_goto (tgt := 79) hx hb dX0_add_59 (by decide) ?_
          refine lv_aload_n hx hb dX0_add_79 rfl (lv_at hl 1 rfl) ?_
          refine va_get (D := G) (ci := 0) (v := .ref aA) (C := RX0) (T := TX0) (N := 3) hx hb hts (fun _ h => List.mem_cons_of_mem _ (List.mem_append_right _ h)) hown hK hP 0 rfl rfl 1 (by decide) (hts _ (List.mem_of_getElem? (i := 2) rfl)) (fun _ h9 => h9) rfl dX0_add_80 ?_
          refine lv_iload_n hx hb dX0_add_83 rfl (lv_at hl 3 rfl) ?_
          refine lv_iload_n hx hb dX0_add_84 rfl (lv_at hl 2 rfl) ?_
          have h_11 := hw.1
          replace hw := hw.2
          refine va_iast hx hb hK hP hD hS 2 0 rfl rfl h_11 dX0_add_85 (fun H locs hP hD hS => ?_)
          replace hP : va_P G vwCl (wdH cI cJ cZ aH aW aA vhN_b28 vhW (upd vhA_b28 x2_b28.toNatClampNeg x1)) H := hP
          replace hD : va_D A (wdH cI cJ cZ aH aW aA vhN_b28 vhW (upd vhA_b28 x2_b28.toNatClampNeg x1)) := hD
          exact hret 86 (vhN_b28, (upd vhA_b28 x2_b28.toNatClampNeg x1)) _ _ _ dX0_add_86 hw hP hD hS
  unfold w_X0_add at hw
  refine lv_aload_n hx hb dX0_add_0 rfl (lv_at hl 0 rfl) ?_
  refine va_get (D := G) (ci := 0) (v := .int vhN) (C := RX0) (T := TX0) (N := 3) hx hb hts (fun _ h => List.mem_cons_of_mem _ (List.mem_append_right _ h)) hown hK hP 0 rfl rfl 2 (by decide) (hts _ (List.mem_of_getElem? (i := 1) rfl)) (fun _ h9 => h9) rfl dX0_add_1 ?_
  refine lv_aload_n hx hb dX0_add_4 rfl (lv_at hl 0 rfl) ?_
  refine va_get (D := G) (ci := 0) (v := .ref aA) (C := RX0) (T := TX0) (N := 3) hx hb hts (fun _ h => List.mem_cons_of_mem _ (List.mem_append_right _ h)) hown hK hP 0 rfl rfl 1 (by decide) (hts _ (List.mem_of_getElem? (i := 2) rfl)) (fun _ h9 => h9) rfl dX0_add_5 ?_
  refine va_alen (v := (4000 : Int32)) hx hb hK hP 2 0 rfl rfl rfl dX0_add_8 ?_
  refine lv_icmp_lt (tgt := 13) hx hb dX0_add_9 (by decide) (fun c_1 => ?_) (fun c_1 => ?_)
  · replace hw := hw.1 c_1
    refine lv_aload_n hx hb dX0_add_13 rfl (lv_at hl 0 rfl) ?_
    refine va_get (D := G) (ci := 0) (v := .int vhN) (C := RX0) (T := TX0) (N := 3) hx hb hts (fun _ h => List.mem_cons_of_mem _ (List.mem_append_right _ h)) hown hK hP 0 rfl rfl 2 (by decide) (hts _ (List.mem_of_getElem? (i := 1) rfl)) (fun _ h9 => h9) rfl dX0_add_14 ?_
    refine lv_istore_n (lv' := [(2, .int vhN), (0, .ref aH), (1, .int x1)]) hx hb dX0_add_17 rfl hl (by decide) rfl (fun ls hl => ?_)
    refine lv_aload_n hx hb dX0_add_18 rfl (lv_at hl 1 rfl) ?_
    refine lv_dup hx hb dX0_add_19 rfl ?_
    refine va_get (D := G) (ci := 0) (v := .int vhN) (C := RX0) (T := TX0) (N := 3) hx hb hts (fun _ h => List.mem_cons_of_mem _ (List.mem_append_right _ h)) hown hK hP 0 rfl rfl 2 (by decide) (hts _ (List.mem_of_getElem? (i := 1) rfl)) (fun _ h9 => h9) rfl dX0_add_20 ?_
    refine lv_iconst (v := (1 : Int32)) hx hb dX0_add_23 (by decide) ?_
    refine lv_iadd hx hb dX0_add_24 ?_
    refine va_put (D := G) (ci := 0) (v := .int (vhN + (1 : Int32))) (ty := .int) (C := RX0) (T := TX0) (N := 3) hx hb hts (fun _ h => List.mem_cons_of_mem _ (List.mem_append_right _ h)) tyX0 tyX0_ok nmX0 hown hK hP hD hS 0 rfl rfl 2 (by decide) (hts _ (List.mem_of_getElem? (i := 1) rfl)) (fun _ h9 => h9) rfl (by decide +kernel) rfl rfl (Nat.le_of_ble_eq_true rfl) dX0_add_25 (fun H locs hP hD hS => ?_)
    replace hP : va_P G vwCl (wdH cI cJ cZ aH aW aA (vhN + (1 : Int32)) vhW vhA) H := hP
    replace hD : va_D A (wdH cI cJ cZ aH aW aA (vhN + (1 : Int32)) vhW vhA) := hD
    replace hl : lv_has ls 4 [(0, .ref aH), (1, .int x1), (2, .int vhN)] := lv_sub hl [1, 2, 0] rfl
    exact b28 N (vhN + (1 : Int32)) vhA vhN _ _ _ hw hP hD hS hl
  · replace hw := hw.2 c_1
    exact hret 12 (vhN, vhA) _ _ _ dX0_add_12 hw hP hD hS
def w_X0_take_b145 (N : Nat)  (post : Int32 → Int32 → (Nat → Int32) → Prop) (vhN_b145 : Int32) (vhA_b145 : Nat → Int32) (x1_b145 : Int32) (x2_b145 : Int32) (x3_b145 : Int32) : Prop :=
  vp_in x3_b145 4000 ∧ post x1_b145 vhN_b145 (upd vhA_b145 x3_b145.toNatClampNeg x2_b145)
def w_X0_take_b94 (N : Nat) (vhW : Nat → Int64) (post : Int32 → Int32 → (Nat → Int32) → Prop) (k41 : Int32 → (Nat → Int32) → Int32 → Int32 → Int32 → Int32 → Prop) (vhN_b94 : Int32) (vhA_b94 : Nat → Int32) (x1_b94 : Int32) (x2_b94 : Int32) (x3_b94 : Int32) (x4_b94 : Int32) : Prop :=
  vp_in x4_b94 4000 ∧ vp_in (vhA_b94 x4_b94.toNatClampNeg) 4000 ∧ vp_in x2_b94 4000 ∧ (((lg_cmp (vhW (vhA_b94 x4_b94.toNatClampNeg).toNatClampNeg) (vhW x2_b94.toNatClampNeg)) < (0 : Int32) → vp_in x3_b94 4000 ∧ ∀ x4_16 : Int32, x4_16 = (((2 : Int32) * x4_b94) + (1 : Int32)) → k41 vhN_b94 (upd vhA_b94 x3_b94.toNatClampNeg (vhA_b94 x4_b94.toNatClampNeg)) x1_b94 x2_b94 x4_b94 x4_16) ∧ (¬ ((lg_cmp (vhW (vhA_b94 x4_b94.toNatClampNeg).toNatClampNeg) (vhW x2_b94.toNatClampNeg)) < (0 : Int32)) → w_X0_take_b145 N  post vhN_b94 vhA_b94 x1_b94 x2_b94 x3_b94))
def w_X0_take_b41_B (N : Nat) (vhW : Nat → Int64) (post : Int32 → Int32 → (Nat → Int32) → Prop) (k41 : Int32 → (Nat → Int32) → Int32 → Int32 → Int32 → Int32 → Prop) (vhN_b41 : Int32) (vhA_b41 : Nat → Int32) (x1_b41 : Int32) (x2_b41 : Int32) (x3_b41 : Int32) (x4_b41 : Int32) : Prop :=
  ((vhN_b41 ≤ x4_b41 → w_X0_take_b145 N  post vhN_b41 vhA_b41 x1_b41 x2_b41 x3_b41) ∧ (¬ (vhN_b41 ≤ x4_b41) → ((vhN_b41 ≤ (x4_b41 + (1 : Int32)) → w_X0_take_b94 N vhW post k41 vhN_b41 vhA_b41 x1_b41 x2_b41 x3_b41 x4_b41) ∧ (¬ (vhN_b41 ≤ (x4_b41 + (1 : Int32))) → vp_in (x4_b41 + (1 : Int32)) 4000 ∧ vp_in (vhA_b41 (x4_b41 + (1 : Int32)).toNatClampNeg) 4000 ∧ vp_in x4_b41 4000 ∧ vp_in (vhA_b41 x4_b41.toNatClampNeg) 4000 ∧ (((0 : Int32) ≤ (lg_cmp (vhW (vhA_b41 (x4_b41 + (1 : Int32)).toNatClampNeg).toNatClampNeg) (vhW (vhA_b41 x4_b41.toNatClampNeg).toNatClampNeg)) → w_X0_take_b94 N vhW post k41 vhN_b41 vhA_b41 x1_b41 x2_b41 x3_b41 x4_b41) ∧ (¬ ((0 : Int32) ≤ (lg_cmp (vhW (vhA_b41 (x4_b41 + (1 : Int32)).toNatClampNeg).toNatClampNeg) (vhW (vhA_b41 x4_b41.toNatClampNeg).toNatClampNeg))) → ∀ x4_23 : Int32, x4_23 = x4_b41 + (1 : Int32) → w_X0_take_b94 N vhW post k41 vhN_b41 vhA_b41 x1_b41 x2_b41 x3_b41 x4_23))))))
def w_X0_take_b41 (N : Nat) (vhW : Nat → Int64) (post : Int32 → Int32 → (Nat → Int32) → Prop) : Nat → Int32 → (Nat → Int32) → Int32 → Int32 → Int32 → Int32 → Prop
  | 0, _, _, _, _, _, _ => False
  | n + 1, vhN_b41, vhA_b41, x1_b41, x2_b41, x3_b41, x4_b41 => w_X0_take_b41_B N vhW post (w_X0_take_b41 N vhW post n) vhN_b41 vhA_b41 x1_b41 x2_b41 x3_b41 x4_b41
def w_X0_take (N : Nat) (vhN : Int32) (vhW : Nat → Int64) (vhA : Nat → Int32)  (post : Int32 → Int32 → (Nat → Int32) → Prop) : Prop :=
  (((0 : Int32) < vhN → vp_in (0 : Int32) 4000 ∧ ∀ x1_3 : Int32, x1_3 = (vhA (0 : Int32).toNatClampNeg) → vp_in (vhN - (1 : Int32)) 4000 ∧ ∀ x2_6 : Int32, x2_6 = (vhA (vhN - (1 : Int32)).toNatClampNeg) → w_X0_take_b41 N vhW post N (vhN - (1 : Int32)) vhA x1_3 x2_6 (0 : Int32) (1 : Int32)) ∧ (¬ ((0 : Int32) < vhN) → post (-1 : Int32) vhN vhA))
abbrev rm_X0_take : Room := { frames := 0, cells := 0, slots := 0, locals := 0 }
set_option maxHeartbeats 4000000 in
set_option maxRecDepth 100000 in
theorem k_X0_take (l : Launch) (G : va_G) (cI cJ cZ : ClassId) (aH aW aA : Nat) (sz N : Nat) (vhN : Int32) (vhW : Nat → Int64) (vhA : Nat → Int32)  (post : Int32 → Int32 → (Nat → Int32) → Prop) (hw : w_X0_take N vhN vhW vhA post) : Met l yX0_take wsX0_take rm_X0_take (kPc G (tyL cI cJ cZ) [.ref aH] sz (wdH cI cJ cZ aH aW aA vhN vhW vhA)) (va_Qi (fun (r : Int32) (u : Int32 × (Nat → Int32)) => post r u.1 u.2) (kB G (tyL cI cJ cZ) (va_A (wdH cI cJ cZ aH aW aA vhN vhW vhA) sz) (fun (u : Int32 × (Nat → Int32)) => wdH cI cJ cZ aH aW aA u.1 vhW u.2)) (va_A (wdH cI cJ cZ aH aW aA vhN vhW vhA) sz)) 0 0 (va_A (wdH cI cJ cZ aH aW aA vhN vhW vhA) sz) := by
  refine km_i (cc := cX0_take) (maxL := 5) (by decide) rfl (Nat.le_of_ble_eq_true rfl) ?_
  intro p e s m below meth c A Q ls hx hb hml hts hown hnm hK hN hA hP hD hS hl hret
  replace hown : s.vm.findClass RX0 = some m.cls := hown
  replace hl : lv_has ls 5 [(0, .ref aH)] := hl
  have b145 : ∀ (vhN_b145 : Int32) (vhA_b145 : Nat → Int32) (x1_b145 : Int32) (x2_b145 : Int32) (x3_b145 : Int32) (H : Heap) (locs : List Loc) (ls : Array Slot), w_X0_take_b145 N post vhN_b145 vhA_b145 x1_b145 x2_b145 x3_b145 → va_P G vwCl (wdH cI cJ cZ aH aW aA vhN_b145 vhW vhA_b145) H → va_D A (wdH cI cJ cZ aH aW aA vhN_b145 vhW vhA_b145) → va_S A s.heap H locs → lv_has ls 5 [(0, .ref aH), (1, .int x1_b145), (2, .int x2_b145), (3, .int x3_b145)] → W p l e rm_X0_take s m ([.ref aH] : List Value).toArray below meth c H locs 0 0 Q (F0 m 145 ls []) := by
    intro vhN_b145 vhA_b145 x1_b145 x2_b145 x3_b145 H locs ls hw hP hD hS hl
    unfold w_X0_take_b145 at hw
    refine lv_aload_n hx hb dX0_take_145 rfl (lv_at hl 0 rfl) ?_
    refine va_get (D := G) (ci := 0) (v := .ref aA) (C := RX0) (T := TX0) (N := 3) hx hb hts (fun _ h => List.mem_cons_of_mem _ (List.mem_append_right _ h)) hown hK hP 0 rfl rfl 1 (by decide) (hts _ (List.mem_of_getElem? (i := 2) rfl)) (fun _ h9 => h9) rfl dX0_take_146 ?_
    refine lv_iload_n hx hb dX0_take_149 rfl (lv_at hl 3 rfl) ?_
    refine lv_iload_n hx hb dX0_take_150 rfl (lv_at hl 2 rfl) ?_
    have h_9 := hw.1
    replace hw := hw.2
    refine va_iast hx hb hK hP hD hS 2 0 rfl rfl h_9 dX0_take_151 (fun H locs hP hD hS => ?_)
    replace hP : va_P G vwCl (wdH cI cJ cZ aH aW aA vhN_b145 vhW (upd vhA_b145 x3_b145.toNatClampNeg x2_b145)) H := hP
    replace hD : va_D A (wdH cI cJ cZ aH aW aA vhN_b145 vhW (upd vhA_b145 x3_b145.toNatClampNeg x2_b145)) := hD
    refine lv_iload_n hx hb dX0_take_152 rfl (lv_at hl 1 rfl) ?_
    exact hret 153 x1_b145 (vhN_b145, (upd vhA_b145 x3_b145.toNatClampNeg x2_b145)) _ _ _ dX0_take_153 hw hP hD hS
  have b41 : ∀ (n41 : Nat) (vhN_b41 : Int32) (vhA_b41 : Nat → Int32) (x1_b41 : Int32) (x2_b41 : Int32) (x3_b41 : Int32) (x4_b41 : Int32) (H : Heap) (locs : List Loc) (ls : Array Slot), w_X0_take_b41 N vhW post n41 vhN_b41 vhA_b41 x1_b41 x2_b41 x3_b41 x4_b41 → va_P G vwCl (wdH cI cJ cZ aH aW aA vhN_b41 vhW vhA_b41) H → va_D A (wdH cI cJ cZ aH aW aA vhN_b41 vhW vhA_b41) → va_S A s.heap H locs → lv_has ls 5 [(0, .ref aH), (1, .int x1_b41), (2, .int x2_b41), (3, .int x3_b41), (4, .int x4_b41)] → W p l e rm_X0_take s m ([.ref aH] : List Value).toArray below meth c H locs 0 0 Q (F0 m 41 ls []) := by
    intro n41
    induction n41 with
    | zero => intro vhN_b41 vhA_b41 x1_b41 x2_b41 x3_b41 x4_b41 H locs ls hw; exact hw.elim
    | succ n41 ih41 =>
      intro vhN_b41 vhA_b41 x1_b41 x2_b41 x3_b41 x4_b41 H locs ls hw hP hD hS hl
      replace hw : w_X0_take_b41_B N vhW post (w_X0_take_b41 N vhW post n41) vhN_b41 vhA_b41 x1_b41 x2_b41 x3_b41 x4_b41 := hw
      unfold w_X0_take_b41_B at hw
      have b94 : ∀ (vhN_b94 : Int32) (vhA_b94 : Nat → Int32) (x1_b94 : Int32) (x2_b94 : Int32) (x3_b94 : Int32) (x4_b94 : Int32) (H : Heap) (locs : List Loc) (ls : Array Slot), w_X0_take_b94 N vhW post (w_X0_take_b41 N vhW post n41) vhN_b94 vhA_b94 x1_b94 x2_b94 x3_b94 x4_b94 → va_P G vwCl (wdH cI cJ cZ aH aW aA vhN_b94 vhW vhA_b94) H → va_D A (wdH cI cJ cZ aH aW aA vhN_b94 vhW vhA_b94) → va_S A s.heap H locs → lv_has ls 5 [(0, .ref aH), (1, .int x1_b94), (2, .int x2_b94), (3, .int x3_b94), (4, .int x4_b94)] → W p l e rm_X0_take s m ([.ref aH] : List Value).toArray below meth c H locs 0 0 Q (F0 m 94 ls []) := by
        intro vhN_b94 vhA_b94 x1_b94 x2_b94 x3_b94 x4_b94 H locs ls hw hP hD hS hl
        unfold w_X0_take_b94 at hw
        refine lv_aload_n hx hb dX0_take_94 rfl (lv_at hl 0 rfl) ?_
        refine va_get (D := G) (ci := 0) (v := .ref aW) (C := RX0) (T := TX0) (N := 3) hx hb hts (fun _ h => List.mem_cons_of_mem _ (List.mem_append_right _ h)) hown hK hP 0 rfl rfl 0 (by decide) (hts _ (List.mem_of_getElem? (i := 3) rfl)) (fun _ h9 => h9) rfl dX0_take_95 ?_
        refine lv_aload_n hx hb dX0_take_98 rfl (lv_at hl 0 rfl) ?_
        refine va_get (D := G) (ci := 0) (v := .ref aA) (C := RX0) (T := TX0) (N := 3) hx hb hts (fun _ h => List.mem_cons_of_mem _ (List.mem_append_right _ h)) hown hK hP 0 rfl rfl 1 (by decide) (hts _ (List.mem_of_getElem? (i := 2) rfl)) (fun _ h9 => h9) rfl dX0_take_99 ?_
        refine lv_iload hx hb dX0_take_102 (lv_at hl 4 rfl) ?_
        have h_11 := hw.1
        replace hw := hw.2
        refine va_iald hx hb hK hP 2 0 rfl rfl h_11 dX0_take_104 ?_
        have h_12 := hw.1
        replace hw := hw.2
        refine va_lald hx hb hK hP 1 1 rfl rfl h_12 dX0_take_105 ?_
        refine lv_aload_n hx hb dX0_take_106 rfl (lv_at hl 0 rfl) ?_
        refine va_get (D := G) (ci := 0) (v := .ref aW) (C := RX0) (T := TX0) (N := 3) hx hb hts (fun _ h => List.mem_cons_of_mem _ (List.mem_append_right _ h)) hown hK hP 0 rfl rfl 0 (by decide) (hts _ (List.mem_of_getElem? (i := 3) rfl)) (fun _ h9 => h9) rfl dX0_take_107 ?_
        refine lv_iload_n hx hb dX0_take_110 rfl (lv_at hl 2 rfl) ?_
        have h_13 := hw.1
        replace hw := hw.2
        refine va_lald hx hb hK hP 1 1 rfl rfl h_13 dX0_take_111 ?_
        refine W.lcmp hx hb dX0_take_112 ?_
        refine lv_if_lt (tgt := 119) hx hb dX0_take_113 (by decide) (fun c_14 => ?_) (fun c_14 => ?_)
        · replace hw := hw.1 c_14
          refine lv_aload_n hx hb dX0_take_119 rfl (lv_at hl 0 rfl) ?_
          refine va_get (D := G) (ci := 0) (v := .ref aA) (C := RX0) (T := TX0) (N := 3) hx hb hts (fun _ h => List.mem_cons_of_mem _ (List.mem_append_right _ h)) hown hK hP 0 rfl rfl 1 (by decide) (hts _ (List.mem_of_getElem? (i := 2) rfl)) (fun _ h9 => h9) rfl dX0_take_120 ?_
          refine lv_iload_n hx hb dX0_take_123 rfl (lv_at hl 3 rfl) ?_
          refine lv_aload_n hx hb dX0_take_124 rfl (lv_at hl 0 rfl) ?_
          refine va_get (D := G) (ci := 0) (v := .ref aA) (C := RX0) (T := TX0) (N := 3) hx hb hts (fun _ h => List.mem_cons_of_mem _ (List.mem_append_right _ h)) hown hK hP 0 rfl rfl 1 (by decide) (hts _ (List.mem_of_getElem? (i := 2) rfl)) (fun _ h9 => h9) rfl dX0_take_125 ?_
          refine lv_iload hx hb dX0_take_128 (lv_at hl 4 rfl) ?_
          refine va_iald hx hb hK hP 2 0 rfl rfl h_11 dX0_take_130 ?_
          have h_15 := hw.1
          replace hw := hw.2
          refine va_iast hx hb hK hP hD hS 2 0 rfl rfl h_15 dX0_take_131 (fun H locs hP hD hS => ?_)
          replace hP : va_P G vwCl (wdH cI cJ cZ aH aW aA vhN_b94 vhW (upd vhA_b94 x3_b94.toNatClampNeg (vhA_b94 x4_b94.toNatClampNeg))) H := hP
          replace hD : va_D A (wdH cI cJ cZ aH aW aA vhN_b94 vhW (upd vhA_b94 x3_b94.toNatClampNeg (vhA_b94 x4_b94.toNatClampNeg))) := hD
          refine lv_iload hx hb dX0_take_132 (lv_at hl 4 rfl) ?_
          refine lv_istore_n (lv' := [(3, .int x4_b94), (0, .ref aH), (1, .int x1_b94), (2, .int x2_b94), (4, .int x4_b94)]) hx hb dX0_take_134 rfl hl (by decide) rfl (fun ls hl => ?_)
          refine lv_iconst (v := (2 : Int32)) hx hb dX0_take_135 (by decide) ?_
          refine lv_iload_n hx hb dX0_take_136 rfl (lv_at hl 0 rfl) ?_
          refine lv_imul hx hb dX0_take_137 ?_
          refine lv_iconst (v := (1 : Int32)) hx hb dX0_take_138 (by decide) ?_
          refine lv_iadd hx hb dX0_take_139 ?_
          refine lv_topi (fun x4_16 e_17 => ?_)
          replace hw := hw x4_16 e_17
          refine lv_istore (lv' := [(4, .int x4_16), (3, .int x4_b94), (0, .ref aH), (1, .int x1_b94), (2, .int x2_b94)]) hx hb dX0_take_140 hl (by decide) rfl (fun ls hl => ?_)
          refine lv_goto (tgt := 41) hx hb dX0_take_142 (by decide) ?_
          replace hl : lv_has ls 5 [(0, .ref aH), (1, .int x1_b94), (2, .int x2_b94), (3, .int x4_b94), (4, .int x4_16)] := lv_sub hl [2, 3, 4, 1, 0] rfl
          exact ih41 vhN_b94 (upd vhA_b94 x3_b94.toNatClampNeg (vhA_b94 x4_b94.toNatClampNeg)) x1_b94 x2_b94 x4_b94 x4_16 _ _ _ hw hP hD hS hl
        · replace hw := hw.2 c_14
          refine lv_goto (tgt := 145) hx hb dX0_take_116 (by decide) ?_
          replace hl : lv_has ls 5 [(0, .ref aH), (1, .int x1_b94), (2, .int x2_b94), (3, .int x3_b94)] := lv_sub hl [0, 1, 2, 3] rfl
          exact b145 vhN_b94 vhA_b94 x1_b94 x2_b94 x3_b94 _ _ _ hw hP hD hS hl
      refine lv_iload hx hb dX0_take_41 (lv_at hl 4 rfl) ?_
      refine lv_aload_n hx hb dX0_take_43 rfl (lv_at hl 0 rfl) ?_
      refine va_get (D := G) (ci := 0) (v := .int vhN_b41) (C := RX0) (T := TX0) (N := 3) hx hb hts (fun _ h => List.mem_cons_of_mem _ (List.mem_append_right _ h)) hown hK hP 0 rfl rfl 2 (by decide) (hts _ (List.mem_of_getElem? (i := 1) rfl)) (fun _ h9 => h9) rfl dX0_take_44 ?_
      refine lv_icmp_ge (tgt := 145) hx hb dX0_take_47 (by decide) (fun c_8 => ?_) (fun c_8 => ?_)
      · replace hw := hw.1 c_8
        replace hl : lv_has ls 5 [(0, .ref aH), (1, .int x1_b41), (2, .int x2_b41), (3, .int x3_b41)] := lv_sub hl [0, 1, 2, 3] rfl
        exact b145 vhN_b41 vhA_b41 x1_b41 x2_b41 x3_b41 _ _ _ hw hP hD hS hl
      · replace hw := hw.2 c_8
        refine lv_iload hx hb dX0_take_50 (lv_at hl 4 rfl) ?_
        refine lv_iconst (v := (1 : Int32)) hx hb dX0_take_52 (by decide) ?_
        refine lv_iadd hx hb dX0_take_53 ?_
        refine lv_aload_n hx hb dX0_take_54 rfl (lv_at hl 0 rfl) ?_
        refine va_get (D := G) (ci := 0) (v := .int vhN_b41) (C := RX0) (T := TX0) (N := 3) hx hb hts (fun _ h => List.mem_cons_of_mem _ (List.mem_append_right _ h)) hown hK hP 0 rfl rfl 2 (by decide) (hts _ (List.mem_of_getElem? (i := 1) rfl)) (fun _ h9 => h9) rfl dX0_take_55 ?_
        refine lv_icmp_ge (tgt := 94) hx hb dX0_take_58 (by decide) (fun c_10 => ?_) (fun c_10 => ?_)
        · replace hw := hw.1 c_10
          replace hl : lv_has ls 5 [(0, .ref aH), (1, .int x1_b41), (2, .int x2_b41), (3, .int x3_b41), (4, .int x4_b41)] := lv_sub hl [0, 1, 2, 3, 4] rfl
          exact b94 vhN_b41 vhA_b41 x1_b41 x2_b41 x3_b41 x4_b41 _ _ _ hw hP hD hS hl
        · replace hw := hw.2 c_10
          refine lv_aload_n hx hb dX0_take_61 rfl (lv_at hl 0 rfl) ?_
          refine va_get (D := G) (ci := 0) (v := .ref aW) (C := RX0) (T := TX0) (N := 3) hx hb hts (fun _ h => List.mem_cons_of_mem _ (List.mem_append_right _ h)) hown hK hP 0 rfl rfl 0 (by decide) (hts _ (List.mem_of_getElem? (i := 3) rfl)) (fun _ h9 => h9) rfl dX0_take_62 ?_
          refine lv_aload_n hx hb dX0_take_65 rfl (lv_at hl 0 rfl) ?_
          refine va_get (D := G) (ci := 0) (v := .ref aA) (C := RX0) (T := TX0) (N := 3) hx hb hts (fun _ h => List.mem_cons_of_mem _ (List.mem_append_right _ h)) hown hK hP 0 rfl rfl 1 (by decide) (hts _ (List.mem_of_getElem? (i := 2) rfl)) (fun _ h9 => h9) rfl dX0_take_66 ?_
          refine lv_iload hx hb dX0_take_69 (lv_at hl 4 rfl) ?_
          refine lv_iconst (v := (1 : Int32)) hx hb dX0_take_71 (by decide) ?_
          refine lv_iadd hx hb dX0_take_72 ?_
          have h_18 := hw.1
          replace hw := hw.2
          refine va_iald hx hb hK hP 2 0 rfl rfl h_18 dX0_take_73 ?_
          have h_19 := hw.1
          replace hw := hw.2
          refine va_lald hx hb hK hP 1 1 rfl rfl h_19 dX0_take_74 ?_
          refine lv_aload_n hx hb dX0_take_75 rfl (lv_at hl 0 rfl) ?_
          refine va_get (D := G) (ci := 0) (v := .ref aW) (C := RX0) (T := TX0) (N := 3) hx hb hts (fun _ h => List.mem_cons_of_mem _ (List.mem_append_right _ h)) hown hK hP 0 rfl rfl 0 (by decide) (hts _ (List.mem_of_getElem? (i := 3) rfl)) (fun _ h9 => h9) rfl dX0_take_76 ?_
          refine lv_aload_n hx hb dX0_take_79 rfl (lv_at hl 0 rfl) ?_
          refine va_get (D := G) (ci := 0) (v := .ref aA) (C := RX0) (T := TX0) (N := 3) hx hb hts (fun _ h => List.mem_cons_of_mem _ (List.mem_append_right _ h)) hown hK hP 0 rfl rfl 1 (by decide) (hts _ (List.mem_of_getElem? (i := 2) rfl)) (fun _ h9 => h9) rfl dX0_take_80 ?_
          refine lv_iload hx hb dX0_take_83 (lv_at hl 4 rfl) ?_
          have h_20 := hw.1
          replace hw := hw.2
          refine va_iald hx hb hK hP 2 0 rfl rfl h_20 dX0_take_85 ?_
          have h_21 := hw.1
          replace hw := hw.2
          refine va_lald hx hb hK hP 1 1 rfl rfl h_21 dX0_take_86 ?_
          refine W.lcmp hx hb dX0_take_87 ?_
          refine lv_if_ge (tgt := 94) hx hb dX0_take_88 (by decide) (fun c_22 => ?_) (fun c_22 => ?_)
          · replace hw := hw.1 c_22
            replace hl : lv_has ls 5 [(0, .ref aH), (1, .int x1_b41), (2, .int x2_b41), (3, .int x3_b41), (4, .int x4_b41)] := lv_sub hl [0, 1, 2, 3, 4] rfl
            exact b94 vhN_b41 vhA_b41 x1_b41 x2_b41 x3_b41 x4_b41 _ _ _ hw hP hD hS hl
          · replace hw := hw.2 c_22
            obtain ⟨x4_23, e_24⟩ : ∃ y : Int32, y = x4_b41 + (1 : Int32) := ⟨_, rfl⟩
            replace hw := hw x4_23 e_24
            refine lv_iinc (v := x4_23) (lv' := [(4, .int x4_23), (0, .ref aH), (1, .int x1_b41), (2, .int x2_b41), (3, .int x3_b41)]) hx hb dX0_take_91 hl (k := 4) rfl (by rw [e_24]; rfl) (by decide) rfl (fun ls hl => ?_)
            replace hl : lv_has ls 5 [(0, .ref aH), (1, .int x1_b41), (2, .int x2_b41), (3, .int x3_b41), (4, .int x4_23)] := lv_sub hl [1, 2, 3, 4, 0] rfl
            exact b94 vhN_b41 vhA_b41 x1_b41 x2_b41 x3_b41 x4_23 _ _ _ hw hP hD hS hl
  unfold w_X0_take at hw
  refine lv_aload_n hx hb dX0_take_0 rfl (lv_at hl 0 rfl) ?_
  refine va_get (D := G) (ci := 0) (v := .int vhN) (C := RX0) (T := TX0) (N := 3) hx hb hts (fun _ h => List.mem_cons_of_mem _ (List.mem_append_right _ h)) hown hK hP 0 rfl rfl 2 (by decide) (hts _ (List.mem_of_getElem? (i := 1) rfl)) (fun _ h9 => h9) rfl dX0_take_1 ?_
  refine lv_if_gt (tgt := 9) hx hb dX0_take_4 (by decide) (fun c_1 => ?_) (fun c_1 => ?_)
  · replace hw := hw.1 c_1
    refine lv_aload_n hx hb dX0_take_9 rfl (lv_at hl 0 rfl) ?_
    refine va_get (D := G) (ci := 0) (v := .ref aA) (C := RX0) (T := TX0) (N := 3) hx hb hts (fun _ h => List.mem_cons_of_mem _ (List.mem_append_right _ h)) hown hK hP 0 rfl rfl 1 (by decide) (hts _ (List.mem_of_getElem? (i := 2) rfl)) (fun _ h9 => h9) rfl dX0_take_10 ?_
    refine lv_iconst (v := (0 : Int32)) hx hb dX0_take_13 (by decide) ?_
    have h_2 := hw.1
    replace hw := hw.2
    refine va_iald hx hb hK hP 2 0 rfl rfl h_2 dX0_take_14 ?_
    refine lv_topi (fun x1_3 e_4 => ?_)
    replace hw := hw x1_3 e_4
    refine lv_istore_n (lv' := [(1, .int x1_3), (0, .ref aH)]) hx hb dX0_take_15 rfl hl (by decide) rfl (fun ls hl => ?_)
    refine lv_aload_n hx hb dX0_take_16 rfl (lv_at hl 1 rfl) ?_
    refine lv_dup hx hb dX0_take_17 rfl ?_
    refine va_get (D := G) (ci := 0) (v := .int vhN) (C := RX0) (T := TX0) (N := 3) hx hb hts (fun _ h => List.mem_cons_of_mem _ (List.mem_append_right _ h)) hown hK hP 0 rfl rfl 2 (by decide) (hts _ (List.mem_of_getElem? (i := 1) rfl)) (fun _ h9 => h9) rfl dX0_take_18 ?_
    refine lv_iconst (v := (1 : Int32)) hx hb dX0_take_21 (by decide) ?_
    refine lv_isub hx hb dX0_take_22 ?_
    refine va_put (D := G) (ci := 0) (v := .int (vhN - (1 : Int32))) (ty := .int) (C := RX0) (T := TX0) (N := 3) hx hb hts (fun _ h => List.mem_cons_of_mem _ (List.mem_append_right _ h)) tyX0 tyX0_ok nmX0 hown hK hP hD hS 0 rfl rfl 2 (by decide) (hts _ (List.mem_of_getElem? (i := 1) rfl)) (fun _ h9 => h9) rfl (by decide +kernel) rfl rfl (Nat.le_of_ble_eq_true rfl) dX0_take_23 (fun H locs hP hD hS => ?_)
    replace hP : va_P G vwCl (wdH cI cJ cZ aH aW aA (vhN - (1 : Int32)) vhW vhA) H := hP
    replace hD : va_D A (wdH cI cJ cZ aH aW aA (vhN - (1 : Int32)) vhW vhA) := hD
    refine lv_aload_n hx hb dX0_take_26 rfl (lv_at hl 1 rfl) ?_
    refine va_get (D := G) (ci := 0) (v := .ref aA) (C := RX0) (T := TX0) (N := 3) hx hb hts (fun _ h => List.mem_cons_of_mem _ (List.mem_append_right _ h)) hown hK hP 0 rfl rfl 1 (by decide) (hts _ (List.mem_of_getElem? (i := 2) rfl)) (fun _ h9 => h9) rfl dX0_take_27 ?_
    refine lv_aload_n hx hb dX0_take_30 rfl (lv_at hl 1 rfl) ?_
    refine va_get (D := G) (ci := 0) (v := .int (vhN - (1 : Int32))) (C := RX0) (T := TX0) (N := 3) hx hb hts (fun _ h => List.mem_cons_of_mem _ (List.mem_append_right _ h)) hown hK hP 0 rfl rfl 2 (by decide) (hts _ (List.mem_of_getElem? (i := 1) rfl)) (fun _ h9 => h9) rfl dX0_take_31 ?_
    have h_5 := hw.1
    replace hw := hw.2
    refine va_iald hx hb hK hP 2 0 rfl rfl h_5 dX0_take_34 ?_
    refine lv_topi (fun x2_6 e_7 => ?_)
    replace hw := hw x2_6 e_7
    refine lv_istore_n (lv' := [(2, .int x2_6), (1, .int x1_3), (0, .ref aH)]) hx hb dX0_take_35 rfl hl (by decide) rfl (fun ls hl => ?_)
    refine lv_iconst (v := (0 : Int32)) hx hb dX0_take_36 (by decide) ?_
    refine lv_istore_n (lv' := [(3, .int (0 : Int32)), (2, .int x2_6), (1, .int x1_3), (0, .ref aH)]) hx hb dX0_take_37 rfl hl (by decide) rfl (fun ls hl => ?_)
    refine lv_iconst (v := (1 : Int32)) hx hb dX0_take_38 (by decide) ?_
    refine lv_istore (lv' := [(4, .int (1 : Int32)), (3, .int (0 : Int32)), (2, .int x2_6), (1, .int x1_3), (0, .ref aH)]) hx hb dX0_take_39 hl (by decide) rfl (fun ls hl => ?_)
    replace hl : lv_has ls 5 [(0, .ref aH), (1, .int x1_3), (2, .int x2_6), (3, .int (0 : Int32)), (4, .int (1 : Int32))] := lv_sub hl [4, 3, 2, 1, 0] rfl
    exact b41 N (vhN - (1 : Int32)) vhA x1_3 x2_6 (0 : Int32) (1 : Int32) _ _ _ hw hP hD hS hl
  · replace hw := hw.2 c_1
    refine lv_iconst (v := (-1 : Int32)) hx hb dX0_take_7 (by decide) ?_
    exact hret 8 (-1 : Int32) (vhN, vhA) _ _ _ dX0_take_8 hw hP hD hS
