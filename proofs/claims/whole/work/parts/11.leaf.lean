abbrev wdR (cI cJ cZ : ClassId) (aR aE aC aF : Nat) (vrN : Int32) (vrA : Int32) (vrE : Nat → Int32) (vrC : Nat → Int32) (vrF : Nat → Int32) : va_W := [(aR, .inr (1, [.int vrN, .int vrA, .ref aE, .ref aC, .ref aF])), (aE, .inl (cI, 4000, .inl vrE)), (aC, .inl (cI, 4000, .inl vrC)), (aF, .inl (cI, 301, .inl vrF))]
abbrev wdT (cI cJ cZ : ClassId) (aT aK : Nat) (vtN : Int32) (vtK : Nat → Int32) : va_W := [(aT, .inr (3, [.int vtN, .ref aK])), (aK, .inl (cI, 200, .inl vtK))]
abbrev wdH (cI cJ cZ : ClassId) (aH aW aA : Nat) (vhN : Int32) (vhW : Nat → Int64) (vhA : Nat → Int32) : va_W := [(aH, .inr (0, [.ref aW, .ref aA, .int vhN])), (aW, .inl (cJ, 4000, .inr (.inl vhW))), (aA, .inl (cI, 4000, .inl vhA))]
abbrev wdS (cI cJ cZ : ClassId) (aS aR aE aC aF aT aK aH aW aA aQ aU : Nat) (vsB : Int32) (vrN : Int32) (vrA : Int32) (vrE : Nat → Int32) (vrC : Nat → Int32) (vrF : Nat → Int32) (vtN : Int32) (vtK : Nat → Int32) (vhN : Int32) (vhW : Nat → Int64) (vhA : Nat → Int32) (vsQ : Nat → Int32) (vsU : Nat → Int32) : va_W := [(aS, .inr (2, [.ref aR, .ref aT, .ref aW, .ref aH, .ref aQ, .ref aU, .int vsB])), (aR, .inr (1, [.int vrN, .int vrA, .ref aE, .ref aC, .ref aF])), (aE, .inl (cI, 4000, .inl vrE)), (aC, .inl (cI, 4000, .inl vrC)), (aF, .inl (cI, 301, .inl vrF)), (aT, .inr (3, [.int vtN, .ref aK])), (aK, .inl (cI, 200, .inl vtK)), (aH, .inr (0, [.ref aW, .ref aA, .int vhN])), (aW, .inl (cJ, 4000, .inr (.inl vhW))), (aA, .inl (cI, 4000, .inl vhA)), (aQ, .inl (cI, 4000, .inl vsQ)), (aU, .inl (cI, 300, .inl vsU))]
abbrev wdX (cI cJ cZ : ClassId) (aX aY aS aR aE aC aF aT aK aH aW aA aQ aU : Nat) (vxL : Int32) (vxY : Nat → Int32) (vsB : Int32) (vrN : Int32) (vrA : Int32) (vrE : Nat → Int32) (vrC : Nat → Int32) (vrF : Nat → Int32) (vtN : Int32) (vtK : Nat → Int32) (vhN : Int32) (vhW : Nat → Int64) (vhA : Nat → Int32) (vsQ : Nat → Int32) (vsU : Nat → Int32) : va_W := [(aX, .inr (4, [.ref aR, .ref aT, .ref aS, .ref aY, .int vxL])), (aY, .inl (cI, 4001, .inl vxY)), (aS, .inr (2, [.ref aR, .ref aT, .ref aW, .ref aH, .ref aQ, .ref aU, .int vsB])), (aR, .inr (1, [.int vrN, .int vrA, .ref aE, .ref aC, .ref aF])), (aE, .inl (cI, 4000, .inl vrE)), (aC, .inl (cI, 4000, .inl vrC)), (aF, .inl (cI, 301, .inl vrF)), (aT, .inr (3, [.int vtN, .ref aK])), (aK, .inl (cI, 200, .inl vtK)), (aH, .inr (0, [.ref aW, .ref aA, .int vhN])), (aW, .inl (cJ, 4000, .inr (.inl vhW))), (aA, .inl (cI, 4000, .inl vhA)), (aQ, .inl (cI, 4000, .inl vsQ)), (aU, .inl (cI, 300, .inl vsU))]
abbrev wdM (cI cJ cZ : ClassId) (aM aM1 aM2 aM3 aM4 aM6 aM8 aM9 aM10 aM11 aM12 aM13 aM15 : Nat) (vmN : Int32) (vmR : Int32) (vmBN : Int32) (vmHN : Int32) (vmL : Int32) (vmLo : Nat → Int32) (vmHi : Nat → Int32) (vmC : Nat → Int32) (vmZ : Nat → Int32) (vmB : Nat → Int32) (vmT : Nat → Int64) (vmM : Nat → Int32) (vmK : Nat → Int32) (vmF : Nat → Int32) (vmX : Nat → Int32) (vmH : Nat → Int32) (vmRow : Nat → Int32) : va_W := [(aM, .inr (5, [.int vmN, .ref aM1, .ref aM2, .ref aM3, .ref aM4, .int vmR, .ref aM6, .int vmBN, .ref aM8, .ref aM9, .ref aM10, .ref aM11, .ref aM12, .ref aM13, .int vmHN, .ref aM15, .int vmL])), (aM1, .inl (cI, 2000, .inl vmLo)), (aM2, .inl (cI, 2000, .inl vmHi)), (aM3, .inl (cI, 2000, .inl vmC)), (aM4, .inl (cZ, 2000, .inl vmZ)), (aM6, .inl (cI, 600, .inl vmB)), (aM8, .inl (cJ, 4000, .inr (.inl vmT))), (aM9, .inl (cI, 4000, .inl vmM)), (aM10, .inl (cZ, 4000, .inl vmK)), (aM11, .inl (cI, 300, .inl vmF)), (aM12, .inl (cI, 4000, .inl vmX)), (aM13, .inl (cI, 4000, .inl vmH)), (aM15, .inl (cI, 4001, .inl vmRow))]
abbrev wdP (cI cJ cZ : ClassId) (aP : Nat) (np : Nat) (vp : Nat → Int32) : va_W := [(aP, .inl (cI, np, .inl vp))]
def cpOK (sp dp n : Int32) (n0 n1 : Nat) : Prop := (¬ sp < 0 ∧ ¬ dp < 0 ∧ ¬ n < 0) ∧ sp.toNatClampNeg + n.toNatClampNeg ≤ n0 ∧ dp.toNatClampNeg + n.toNatClampNeg ≤ n1

def w_X4_placeIn_b6_B (N : Nat) (vp : Nat → Int32) (np : Nat) (x3 : Int32) (post : Int32 → Prop) (k6 : Int32 → Int32 → Prop) (x4_b6 : Int32) (x5_b6 : Int32) : Prop :=
  ((x5_b6 ≤ x4_b6 → post x4_b6) ∧ (¬ (x5_b6 ≤ x4_b6) → ∀ x6_2 : Int32, x6_2 = (x4_b6 + ((x5_b6 - x4_b6) / (2 : Int32))) → vp_in x6_2 np ∧ ((x3 ≤ (vp x6_2.toNatClampNeg) → k6 x4_b6 x6_2) ∧ (¬ (x3 ≤ (vp x6_2.toNatClampNeg)) → ∀ x4_6 : Int32, x4_6 = (x6_2 + (1 : Int32)) → k6 x4_6 x5_b6))))
def w_X4_placeIn_b6 (N : Nat) (vp : Nat → Int32) (np : Nat) (x3 : Int32) (post : Int32 → Prop) : Nat → Int32 → Int32 → Prop
  | 0, _, _ => False
  | n + 1, x4_b6, x5_b6 => w_X4_placeIn_b6_B N vp np x3 post (w_X4_placeIn_b6 N vp np x3 post n) x4_b6 x5_b6
def w_X4_placeIn (N : Nat) (vp : Nat → Int32) (np : Nat) (x1 : Int32) (x2 : Int32) (x3 : Int32) (post : Int32 → Prop) : Prop :=
  w_X4_placeIn_b6 N vp np x3 post N x1 x2
abbrev rm_X4_placeIn : Room := { frames := 0, cells := 0, slots := 0, locals := 0 }
set_option maxHeartbeats 4000000 in
set_option maxRecDepth 100000 in
theorem k_X4_placeIn (l : Launch) (G : va_G) (cI cJ cZ : ClassId) (aP : Nat) (np : Nat) (sz N : Nat) (vp : Nat → Int32) (x1 : Int32) (x2 : Int32) (x3 : Int32) (post : Int32 → Prop) (hw : w_X4_placeIn N vp np x1 x2 x3 post) : Met l yX4_placeIn wsX4_placeIn rm_X4_placeIn (kPc G (tyL cI cJ cZ) [.ref aP, .int x1, .int x2, .int x3] sz (wdP cI cJ cZ aP np vp)) (va_Qi (fun (r : Int32) (u : Unit) => post r ) (kB G (tyL cI cJ cZ) (va_A (wdP cI cJ cZ aP np vp) sz) (fun (u : Unit) => wdP cI cJ cZ aP np vp)) (va_A (wdP cI cJ cZ aP np vp) sz)) 0 0 (va_A (wdP cI cJ cZ aP np vp) sz) := by
  refine km_i (cc := cX4_placeIn) (maxL := 7) (by decide) rfl (Nat.le_of_ble_eq_true rfl) ?_
  intro p e s m below meth c A Q ls hx hb hml hts hown hnm hK hN hA hP hD hS hl hret
  replace hown : s.vm.findClass RX4 = some m.cls := hown
  replace hl : lv_has ls 7 [(0, .ref aP), (1, .int x1), (2, .int x2), (3, .int x3)] := hl
  have b6 : ∀ (n6 : Nat) (x4_b6 : Int32) (x5_b6 : Int32) (H : Heap) (locs : List Loc) (ls : Array Slot), w_X4_placeIn_b6 N vp np x3 post n6 x4_b6 x5_b6 → va_P G vwCl (wdP cI cJ cZ aP np vp) H → va_D A (wdP cI cJ cZ aP np vp) → va_S A s.heap H locs → lv_has ls 7 [(0, .ref aP), (3, .int x3), (4, .int x4_b6), (5, .int x5_b6)] → W p l e rm_X4_placeIn s m ([.ref aP, .int x1, .int x2, .int x3] : List Value).toArray below meth c H locs 0 0 Q (F0 m 6 ls []) := by
    intro n6
    induction n6 with
    | zero => intro x4_b6 x5_b6 H locs ls hw; exact hw.elim
    | succ n6 ih6 =>
      intro x4_b6 x5_b6 H locs ls hw hP hD hS hl
      replace hw : w_X4_placeIn_b6_B N vp np x3 post (w_X4_placeIn_b6 N vp np x3 post n6) x4_b6 x5_b6 := hw
      unfold w_X4_placeIn_b6_B at hw
      refine lv_iload hx hb dX4_placeIn_6 (lv_at hl 2 rfl) ?_
      refine lv_iload hx hb dX4_placeIn_8 (lv_at hl 3 rfl) ?_
      refine lv_icmp_ge (tgt := 49) hx hb dX4_placeIn_10 (by decide) (fun c_1 => ?_) (fun c_1 => ?_)
      · replace hw := hw.1 c_1
        refine lv_iload hx hb dX4_placeIn_49 (lv_at hl 2 rfl) ?_
        exact hret 51 x4_b6 () _ _ _ dX4_placeIn_51 hw hP hD hS
      · replace hw := hw.2 c_1
        refine lv_iload hx hb dX4_placeIn_13 (lv_at hl 2 rfl) ?_
        refine lv_iload hx hb dX4_placeIn_15 (lv_at hl 3 rfl) ?_
        refine lv_iload hx hb dX4_placeIn_17 (lv_at hl 2 rfl) ?_
        refine lv_isub hx hb dX4_placeIn_19 ?_
        refine lv_iconst (v := (2 : Int32)) hx hb dX4_placeIn_20 (by decide) ?_
        refine lv_idiv hx hb dX4_placeIn_21 (by decide) ?_
        refine lv_iadd hx hb dX4_placeIn_22 ?_
        refine lv_topi (fun x6_2 e_3 => ?_)
        replace hw := hw x6_2 e_3
        refine lv_istore (lv' := [(6, .int x6_2), (0, .ref aP), (3, .int x3), (4, .int x4_b6), (5, .int x5_b6)]) hx hb dX4_placeIn_23 hl (by decide) rfl (fun ls hl => ?_)
        refine lv_aload_n hx hb dX4_placeIn_25 rfl (lv_at hl 1 rfl) ?_
        refine lv_iload hx hb dX4_placeIn_26 (lv_at hl 0 rfl) ?_
        have h_4 := hw.1
        replace hw := hw.2
        refine va_iald hx hb hK hP 0 0 rfl rfl h_4 dX4_placeIn_28 ?_
        refine lv_iload_n hx hb dX4_placeIn_29 rfl (lv_at hl 2 rfl) ?_
        refine lv_icmp_ge (tgt := 42) hx hb dX4_placeIn_30 (by decide) (fun c_5 => ?_) (fun c_5 => ?_)
        · replace hw := hw.1 c_5
          refine lv_iload hx hb dX4_placeIn_42 (lv_at hl 0 rfl) ?_
          refine lv_istore (lv' := [(5, .int x6_2), (6, .int x6_2), (0, .ref aP), (3, .int x3), (4, .int x4_b6)]) hx hb dX4_placeIn_44 hl (by decide) rfl (fun ls hl => ?_)
          refine lv_goto (tgt := 6) hx hb dX4_placeIn_46 (by decide) ?_
          replace hl : lv_has ls 7 [(0, .ref aP), (3, .int x3), (4, .int x4_b6), (5, .int x6_2)] := lv_sub hl [2, 3, 4, 0] rfl
          exact ih6 x4_b6 x6_2 _ _ _ hw hP hD hS hl
        · replace hw := hw.2 c_5
          refine lv_iload hx hb dX4_placeIn_33 (lv_at hl 0 rfl) ?_
          refine lv_iconst (v := (1 : Int32)) hx hb dX4_placeIn_35 (by decide) ?_
          refine lv_iadd hx hb dX4_placeIn_36 ?_
          refine lv_topi (fun x4_6 e_7 => ?_)
          replace hw := hw x4_6 e_7
          refine lv_istore (lv' := [(4, .int x4_6), (6, .int x6_2), (0, .ref aP), (3, .int x3), (5, .int x5_b6)]) hx hb dX4_placeIn_37 hl (by decide) rfl (fun ls hl => ?_)
          refine lv_goto (tgt := 46) hx hb dX4_placeIn_39 (by decide) ?_
          refine lv_goto (tgt := 6) hx hb dX4_placeIn_46 (by decide) ?_
          replace hl : lv_has ls 7 [(0, .ref aP), (3, .int x3), (4, .int x4_6), (5, .int x5_b6)] := lv_sub hl [2, 3, 0, 4] rfl
          exact ih6 x4_6 x5_b6 _ _ _ hw hP hD hS hl
  unfold w_X4_placeIn at hw
  refine lv_iload_n hx hb dX4_placeIn_0 rfl (lv_at hl 1 rfl) ?_
  refine lv_istore (lv' := [(4, .int x1), (0, .ref aP), (1, .int x1), (2, .int x2), (3, .int x3)]) hx hb dX4_placeIn_1 hl (by decide) rfl (fun ls hl => ?_)
  refine lv_iload_n hx hb dX4_placeIn_3 rfl (lv_at hl 3 rfl) ?_
  refine lv_istore (lv' := [(5, .int x2), (4, .int x1), (0, .ref aP), (1, .int x1), (2, .int x2), (3, .int x3)]) hx hb dX4_placeIn_4 hl (by decide) rfl (fun ls hl => ?_)
  replace hl : lv_has ls 7 [(0, .ref aP), (3, .int x3), (4, .int x1), (5, .int x2)] := lv_sub hl [2, 5, 1, 0] rfl
  exact b6 N x1 x2 _ _ _ hw hP hD hS hl
def w_X4_insert (N : Nat) (vp : Nat → Int32) (np : Nat) (x1 : Int32) (x2 : Int32) (x3 : Int32) (post : (Nat → Int32) → Prop) : Prop :=
  ((x2 < (0 : Int32) → post vp) ∧ (¬ (x2 < (0 : Int32)) → ((x1 < x2 → post vp) ∧ (¬ (x1 < x2) → ((x1 < (Int32.ofNat np) → cpOK x2 (x2 + (1 : Int32)) (x1 - x2) np np ∧ vp_in x2 np ∧ post (upd (va_cpy vp vp x2.toNatClampNeg (x2 + (1 : Int32)).toNatClampNeg (x1 - x2).toNatClampNeg) x2.toNatClampNeg x3)) ∧ (¬ (x1 < (Int32.ofNat np)) → post vp))))))
abbrev rm_X4_insert : Room := { frames := 1, cells := 0, slots := 0, locals := 40 }
set_option maxHeartbeats 4000000 in
set_option maxRecDepth 100000 in
theorem k_X4_insert (l : Launch) (G : va_G) (cI cJ cZ : ClassId) (aP : Nat) (np : Nat) (sz N : Nat) (vp : Nat → Int32) (x1 : Int32) (x2 : Int32) (x3 : Int32) (post : (Nat → Int32) → Prop) (hw : w_X4_insert N vp np x1 x2 x3 post) : Met l yX4_insert wsX4_insert rm_X4_insert (kPc G (tyL cI cJ cZ) [.ref aP, .int x1, .int x2, .int x3] sz (wdP cI cJ cZ aP np vp)) (va_Qv (fun (u : (Nat → Int32)) => post u) (kB G (tyL cI cJ cZ) (va_A (wdP cI cJ cZ aP np vp) sz) (fun (u : (Nat → Int32)) => wdP cI cJ cZ aP np u)) (va_A (wdP cI cJ cZ aP np vp) sz)) 0 0 (va_A (wdP cI cJ cZ aP np vp) sz) := by
  refine km_v (cc := cX4_insert) (maxL := 4) (by decide) rfl (Nat.le_of_ble_eq_true rfl) ?_
  intro p e s m below meth c A Q ls hx hb hml hts hown hnm hK hN hA hP hD hS hl hret
  replace hown : s.vm.findClass RX4 = some m.cls := hown
  replace hl : lv_has ls 4 [(0, .ref aP), (1, .int x1), (2, .int x2), (3, .int x3)] := hl
  unfold w_X4_insert at hw
  refine lv_iload_n hx hb dX4_insert_0 rfl (lv_at hl 2 rfl) ?_
  refine lv_if_lt (tgt := 15) hx hb dX4_insert_1 (by decide) (fun c_1 => ?_) (fun c_1 => ?_)
  · replace hw := hw.1 c_1
    exact hret 15 (vp) _ _ _ dX4_insert_15 hw hP hD hS
  · replace hw := hw.2 c_1
    refine lv_iload_n hx hb dX4_insert_4 rfl (lv_at hl 2 rfl) ?_
    refine lv_iload_n hx hb dX4_insert_5 rfl (lv_at hl 1 rfl) ?_
    refine lv_icmp_gt (tgt := 15) hx hb dX4_insert_6 (by decide) (fun c_2 => ?_) (fun c_2 => ?_)
    · replace hw := hw.1 c_2
      exact hret 15 (vp) _ _ _ dX4_insert_15 hw hP hD hS
    · replace hw := hw.2 c_2
      refine lv_iload_n hx hb dX4_insert_9 rfl (lv_at hl 1 rfl) ?_
      refine lv_aload_n hx hb dX4_insert_10 rfl (lv_at hl 0 rfl) ?_
      refine va_alen (v := (Int32.ofNat np)) hx hb hK hP 0 0 rfl rfl rfl dX4_insert_11 ?_
      refine lv_icmp_lt (tgt := 16) hx hb dX4_insert_12 (by decide) (fun c_3 => ?_) (fun c_3 => ?_)
      · replace hw := hw.1 c_3
        refine lv_aload_n hx hb dX4_insert_16 rfl (lv_at hl 0 rfl) ?_
        refine lv_iload_n hx hb dX4_insert_17 rfl (lv_at hl 2 rfl) ?_
        refine lv_aload_n hx hb dX4_insert_18 rfl (lv_at hl 0 rfl) ?_
        refine lv_iload_n hx hb dX4_insert_19 rfl (lv_at hl 2 rfl) ?_
        refine lv_iconst (v := (1 : Int32)) hx hb dX4_insert_20 (by decide) ?_
        refine lv_iadd hx hb dX4_insert_21 ?_
        refine lv_iload_n hx hb dX4_insert_22 rfl (lv_at hl 1 rfl) ?_
        refine lv_iload_n hx hb dX4_insert_23 rfl (lv_at hl 2 rfl) ?_
        refine lv_isub hx hb dX4_insert_24 ?_
        have h_4 := hw.1
        replace hw := hw.2
        refine va_copyi hx hb (by rw [hml]; exact hl.1.symm) hown (hts _ (List.mem_of_getElem? (i := 1) rfl)) (hts _ (List.mem_of_getElem? (i := 2) rfl)) (hts _ (List.mem_of_getElem? (i := 3) rfl)) (hts _ (List.mem_of_getElem? (i := 4) rfl)) hK hP hD hS 0 0 0 0 rfl rfl rfl rfl rfl h_4.1.1 h_4.1.2.1 h_4.1.2.2 h_4.2.1 h_4.2.2 (fun _ _ => rfl) (by decide) (by decide +kernel) dX4_insert_25 (fun H locs hP hD hS => ?_)
        replace hP : va_P G vwCl (wdP cI cJ cZ aP np (va_cpy vp vp x2.toNatClampNeg (x2 + (1 : Int32)).toNatClampNeg (x1 - x2).toNatClampNeg)) H := hP
        replace hD : va_D A (wdP cI cJ cZ aP np (va_cpy vp vp x2.toNatClampNeg (x2 + (1 : Int32)).toNatClampNeg (x1 - x2).toNatClampNeg)) := hD
        refine lv_aload_n hx hb dX4_insert_28 rfl (lv_at hl 0 rfl) ?_
        refine lv_iload_n hx hb dX4_insert_29 rfl (lv_at hl 2 rfl) ?_
        refine lv_iload_n hx hb dX4_insert_30 rfl (lv_at hl 3 rfl) ?_
        have h_5 := hw.1
        replace hw := hw.2
        refine va_iast hx hb hK hP hD hS 0 0 rfl rfl h_5 dX4_insert_31 (fun H locs hP hD hS => ?_)
        replace hP : va_P G vwCl (wdP cI cJ cZ aP np (upd (va_cpy vp vp x2.toNatClampNeg (x2 + (1 : Int32)).toNatClampNeg (x1 - x2).toNatClampNeg) x2.toNatClampNeg x3)) H := hP
        replace hD : va_D A (wdP cI cJ cZ aP np (upd (va_cpy vp vp x2.toNatClampNeg (x2 + (1 : Int32)).toNatClampNeg (x1 - x2).toNatClampNeg) x2.toNatClampNeg x3)) := hD
        exact hret 32 ((upd (va_cpy vp vp x2.toNatClampNeg (x2 + (1 : Int32)).toNatClampNeg (x1 - x2).toNatClampNeg) x2.toNatClampNeg x3)) _ _ _ dX4_insert_32 hw hP hD hS
      · replace hw := hw.2 c_3
        exact hret 15 (vp) _ _ _ dX4_insert_15 hw hP hD hS
def w_X1_key (N : Nat)  (x0 : Int32) (x1 : Int32) (post : Int32 → Prop) : Prop :=
  post ((x0 * (300 : Int32)) + x1)
abbrev rm_X1_key : Room := { frames := 0, cells := 0, slots := 0, locals := 0 }
set_option maxHeartbeats 4000000 in
set_option maxRecDepth 100000 in
theorem k_X1_key (l : Launch) (G : va_G) (cI cJ cZ : ClassId) (sz N : Nat)  (x0 : Int32) (x1 : Int32) (post : Int32 → Prop) (hw : w_X1_key N x0 x1 post) : Met l yX1_key wsX1_key rm_X1_key (kPc G (tyL cI cJ cZ) [.int x0, .int x1] sz ([] : va_W)) (va_Qi (fun (r : Int32) (u : Unit) => post r ) (kB G (tyL cI cJ cZ) (va_A ([] : va_W) sz) (fun (u : Unit) => ([] : va_W))) (va_A ([] : va_W) sz)) 0 0 (va_A ([] : va_W) sz) := by
  refine km_i (cc := cX1_key) (maxL := 2) (by decide) rfl (Nat.le_of_ble_eq_true rfl) ?_
  intro p e s m below meth c A Q ls hx hb hml hts hown hnm hK hN hA hP hD hS hl hret
  replace hown : s.vm.findClass RX1 = some m.cls := hown
  replace hl : lv_has ls 2 [(0, .int x0), (1, .int x1)] := hl
  unfold w_X1_key at hw
  refine lv_iload_n hx hb dX1_key_0 rfl (lv_at hl 0 rfl) ?_
  refine lv_sipush (v := (300 : Int32)) hx hb dX1_key_1 (by decide) ?_
  refine lv_imul hx hb dX1_key_4 ?_
  refine lv_iload_n hx hb dX1_key_5 rfl (lv_at hl 1 rfl) ?_
  refine lv_iadd hx hb dX1_key_6 ?_
  exact hret 7 ((x0 * (300 : Int32)) + x1) () _ _ _ dX1_key_7 hw hP hD hS
def w_X3_key (N : Nat)  (x0 : Int32) (x1 : Int32) (x2 : Int32) (post : Int32 → Prop) : Prop :=
  post ((((x0 * (300 : Int32)) + x1) * (300 : Int32)) + x2)
abbrev rm_X3_key : Room := { frames := 0, cells := 0, slots := 0, locals := 0 }
set_option maxHeartbeats 4000000 in
set_option maxRecDepth 100000 in
theorem k_X3_key (l : Launch) (G : va_G) (cI cJ cZ : ClassId) (sz N : Nat)  (x0 : Int32) (x1 : Int32) (x2 : Int32) (post : Int32 → Prop) (hw : w_X3_key N x0 x1 x2 post) : Met l yX3_key wsX3_key rm_X3_key (kPc G (tyL cI cJ cZ) [.int x0, .int x1, .int x2] sz ([] : va_W)) (va_Qi (fun (r : Int32) (u : Unit) => post r ) (kB G (tyL cI cJ cZ) (va_A ([] : va_W) sz) (fun (u : Unit) => ([] : va_W))) (va_A ([] : va_W) sz)) 0 0 (va_A ([] : va_W) sz) := by
  refine km_i (cc := cX3_key) (maxL := 3) (by decide) rfl (Nat.le_of_ble_eq_true rfl) ?_
  intro p e s m below meth c A Q ls hx hb hml hts hown hnm hK hN hA hP hD hS hl hret
  replace hown : s.vm.findClass RX3 = some m.cls := hown
  replace hl : lv_has ls 3 [(0, .int x0), (1, .int x1), (2, .int x2)] := hl
  unfold w_X3_key at hw
  refine lv_iload_n hx hb dX3_key_0 rfl (lv_at hl 0 rfl) ?_
  refine lv_sipush (v := (300 : Int32)) hx hb dX3_key_1 (by decide) ?_
  refine lv_imul hx hb dX3_key_4 ?_
  refine lv_iload_n hx hb dX3_key_5 rfl (lv_at hl 1 rfl) ?_
  refine lv_iadd hx hb dX3_key_6 ?_
  refine lv_sipush (v := (300 : Int32)) hx hb dX3_key_7 (by decide) ?_
  refine lv_imul hx hb dX3_key_10 ?_
  refine lv_iload_n hx hb dX3_key_11 rfl (lv_at hl 2 rfl) ?_
  refine lv_iadd hx hb dX3_key_12 ?_
  exact hret 13 ((((x0 * (300 : Int32)) + x1) * (300 : Int32)) + x2) () _ _ _ dX3_key_13 hw hP hD hS
def w_X1_hasNode (N : Nat) (vrN : Int32) (x1 : Int32) (post : Int32 → Prop) : Prop :=
  ((x1 < (0 : Int32) → post (0 : Int32)) ∧ (¬ (x1 < (0 : Int32)) → ((vrN ≤ x1 → post (0 : Int32)) ∧ (¬ (vrN ≤ x1) → post (1 : Int32)))))
abbrev rm_X1_hasNode : Room := { frames := 0, cells := 0, slots := 0, locals := 0 }
set_option maxHeartbeats 4000000 in
set_option maxRecDepth 100000 in
theorem k_X1_hasNode (l : Launch) (G : va_G) (cI cJ cZ : ClassId) (aR aE aC aF : Nat) (sz N : Nat) (vrN : Int32) (vrA : Int32) (vrE : Nat → Int32) (vrC : Nat → Int32) (vrF : Nat → Int32) (x1 : Int32) (post : Int32 → Prop) (hw : w_X1_hasNode N vrN x1 post) : Met l yX1_hasNode wsX1_hasNode rm_X1_hasNode (kPc G (tyL cI cJ cZ) [.ref aR, .int x1] sz (wdR cI cJ cZ aR aE aC aF vrN vrA vrE vrC vrF)) (va_Qi (fun (r : Int32) (u : Unit) => post r ) (kB G (tyL cI cJ cZ) (va_A (wdR cI cJ cZ aR aE aC aF vrN vrA vrE vrC vrF) sz) (fun (u : Unit) => wdR cI cJ cZ aR aE aC aF vrN vrA vrE vrC vrF)) (va_A (wdR cI cJ cZ aR aE aC aF vrN vrA vrE vrC vrF) sz)) 0 0 (va_A (wdR cI cJ cZ aR aE aC aF vrN vrA vrE vrC vrF) sz) := by
  refine km_z (cc := cX1_hasNode) (maxL := 2) (by decide) rfl (Nat.le_of_ble_eq_true rfl) ?_
  intro p e s m below meth c A Q ls hx hb hml hts hown hnm hK hN hA hP hD hS hl hret
  replace hown : s.vm.findClass RX1 = some m.cls := hown
  replace hl : lv_has ls 2 [(0, .ref aR), (1, .int x1)] := hl
  unfold w_X1_hasNode at hw
  refine lv_iload_n hx hb dX1_hasNode_0 rfl (lv_at hl 1 rfl) ?_
  refine lv_if_lt (tgt := 16) hx hb dX1_hasNode_1 (by decide) (fun c_1 => ?_) (fun c_1 => ?_)
  · replace hw := hw.1 c_1
    refine lv_iconst (v := (0 : Int32)) hx hb dX1_hasNode_16 (by decide) ?_
    exact hret 17 (0 : Int32) () _ _ _ dX1_hasNode_17 rfl hw hP hD hS
  · replace hw := hw.2 c_1
    refine lv_iload_n hx hb dX1_hasNode_4 rfl (lv_at hl 1 rfl) ?_
    refine lv_aload_n hx hb dX1_hasNode_5 rfl (lv_at hl 0 rfl) ?_
    refine va_get (D := G) (ci := 1) (v := .int vrN) (C := RX1) (T := TX1) (N := 5) hx hb hts (fun _ h => List.mem_cons_of_mem _ (List.mem_append_right _ h)) hown hK hP 0 rfl rfl 0 (by decide) (hts _ (List.mem_of_getElem? (i := 1) rfl)) (fun _ h9 => h9) rfl dX1_hasNode_6 ?_
    refine lv_icmp_ge (tgt := 16) hx hb dX1_hasNode_9 (by decide) (fun c_2 => ?_) (fun c_2 => ?_)
    · replace hw := hw.1 c_2
      refine lv_iconst (v := (0 : Int32)) hx hb dX1_hasNode_16 (by decide) ?_
      exact hret 17 (0 : Int32) () _ _ _ dX1_hasNode_17 rfl hw hP hD hS
    · replace hw := hw.2 c_2
      refine lv_iconst (v := (1 : Int32)) hx hb dX1_hasNode_12 (by decide) ?_
      refine lv_goto (tgt := 17) hx hb dX1_hasNode_13 (by decide) ?_
      exact hret 17 (1 : Int32) () _ _ _ dX1_hasNode_17 rfl hw hP hD hS
def w_X1_count (N : Nat) (vrA : Int32)  (post : Int32 → Prop) : Prop :=
  post (vrA / (2 : Int32))
abbrev rm_X1_count : Room := { frames := 0, cells := 0, slots := 0, locals := 0 }
set_option maxHeartbeats 4000000 in
set_option maxRecDepth 100000 in
theorem k_X1_count (l : Launch) (G : va_G) (cI cJ cZ : ClassId) (aR aE aC aF : Nat) (sz N : Nat) (vrN : Int32) (vrA : Int32) (vrE : Nat → Int32) (vrC : Nat → Int32) (vrF : Nat → Int32)  (post : Int32 → Prop) (hw : w_X1_count N vrA post) : Met l yX1_count wsX1_count rm_X1_count (kPc G (tyL cI cJ cZ) [.ref aR] sz (wdR cI cJ cZ aR aE aC aF vrN vrA vrE vrC vrF)) (va_Qi (fun (r : Int32) (u : Unit) => post r ) (kB G (tyL cI cJ cZ) (va_A (wdR cI cJ cZ aR aE aC aF vrN vrA vrE vrC vrF) sz) (fun (u : Unit) => wdR cI cJ cZ aR aE aC aF vrN vrA vrE vrC vrF)) (va_A (wdR cI cJ cZ aR aE aC aF vrN vrA vrE vrC vrF) sz)) 0 0 (va_A (wdR cI cJ cZ aR aE aC aF vrN vrA vrE vrC vrF) sz) := by
  refine km_i (cc := cX1_count) (maxL := 1) (by decide) rfl (Nat.le_of_ble_eq_true rfl) ?_
  intro p e s m below meth c A Q ls hx hb hml hts hown hnm hK hN hA hP hD hS hl hret
  replace hown : s.vm.findClass RX1 = some m.cls := hown
  replace hl : lv_has ls 1 [(0, .ref aR)] := hl
  unfold w_X1_count at hw
  refine lv_aload_n hx hb dX1_count_0 rfl (lv_at hl 0 rfl) ?_
  refine va_get (D := G) (ci := 1) (v := .int vrA) (C := RX1) (T := TX1) (N := 5) hx hb hts (fun _ h => List.mem_cons_of_mem _ (List.mem_append_right _ h)) hown hK hP 0 rfl rfl 1 (by decide) (hts _ (List.mem_of_getElem? (i := 1) rfl)) (fun _ h9 => h9) rfl dX1_count_1 ?_
  refine lv_iconst (v := (2 : Int32)) hx hb dX1_count_4 (by decide) ?_
  refine lv_idiv hx hb dX1_count_5 (by decide) ?_
  exact hret 6 (vrA / (2 : Int32)) () _ _ _ dX1_count_6 hw hP hD hS
def w_X1_originOf (N : Nat) (vrE : Nat → Int32) (x1 : Int32) (post : Int32 → Prop) : Prop :=
  vp_in x1 4000 ∧ post ((vrE x1.toNatClampNeg) / (300 : Int32))
abbrev rm_X1_originOf : Room := { frames := 0, cells := 0, slots := 0, locals := 0 }
set_option maxHeartbeats 4000000 in
set_option maxRecDepth 100000 in
theorem k_X1_originOf (l : Launch) (G : va_G) (cI cJ cZ : ClassId) (aR aE aC aF : Nat) (sz N : Nat) (vrN : Int32) (vrA : Int32) (vrE : Nat → Int32) (vrC : Nat → Int32) (vrF : Nat → Int32) (x1 : Int32) (post : Int32 → Prop) (hw : w_X1_originOf N vrE x1 post) : Met l yX1_originOf wsX1_originOf rm_X1_originOf (kPc G (tyL cI cJ cZ) [.ref aR, .int x1] sz (wdR cI cJ cZ aR aE aC aF vrN vrA vrE vrC vrF)) (va_Qi (fun (r : Int32) (u : Unit) => post r ) (kB G (tyL cI cJ cZ) (va_A (wdR cI cJ cZ aR aE aC aF vrN vrA vrE vrC vrF) sz) (fun (u : Unit) => wdR cI cJ cZ aR aE aC aF vrN vrA vrE vrC vrF)) (va_A (wdR cI cJ cZ aR aE aC aF vrN vrA vrE vrC vrF) sz)) 0 0 (va_A (wdR cI cJ cZ aR aE aC aF vrN vrA vrE vrC vrF) sz) := by
  refine km_i (cc := cX1_originOf) (maxL := 2) (by decide) rfl (Nat.le_of_ble_eq_true rfl) ?_
  intro p e s m below meth c A Q ls hx hb hml hts hown hnm hK hN hA hP hD hS hl hret
  replace hown : s.vm.findClass RX1 = some m.cls := hown
  replace hl : lv_has ls 2 [(0, .ref aR), (1, .int x1)] := hl
  unfold w_X1_originOf at hw
  refine lv_aload_n hx hb dX1_originOf_0 rfl (lv_at hl 0 rfl) ?_
  refine va_get (D := G) (ci := 1) (v := .ref aE) (C := RX1) (T := TX1) (N := 5) hx hb hts (fun _ h => List.mem_cons_of_mem _ (List.mem_append_right _ h)) hown hK hP 0 rfl rfl 2 (by decide) (hts _ (List.mem_of_getElem? (i := 1) rfl)) (fun _ h9 => h9) rfl dX1_originOf_1 ?_
  refine lv_iload_n hx hb dX1_originOf_4 rfl (lv_at hl 1 rfl) ?_
  have h_1 := hw.1
  replace hw := hw.2
  refine va_iald hx hb hK hP 1 0 rfl rfl h_1 dX1_originOf_5 ?_
  refine lv_sipush (v := (300 : Int32)) hx hb dX1_originOf_6 (by decide) ?_
  refine lv_idiv hx hb dX1_originOf_9 (by decide) ?_
  exact hret 10 ((vrE x1.toNatClampNeg) / (300 : Int32)) () _ _ _ dX1_originOf_10 hw hP hD hS
def w_X1_targetOf (N : Nat) (vrE : Nat → Int32) (x1 : Int32) (post : Int32 → Prop) : Prop :=
  vp_in x1 4000 ∧ post ((vrE x1.toNatClampNeg) - (vrE x1.toNatClampNeg) / (300 : Int32) * (300 : Int32))
abbrev rm_X1_targetOf : Room := { frames := 0, cells := 0, slots := 0, locals := 0 }
set_option maxHeartbeats 4000000 in
set_option maxRecDepth 100000 in
theorem k_X1_targetOf (l : Launch) (G : va_G) (cI cJ cZ : ClassId) (aR aE aC aF : Nat) (sz N : Nat) (vrN : Int32) (vrA : Int32) (vrE : Nat → Int32) (vrC : Nat → Int32) (vrF : Nat → Int32) (x1 : Int32) (post : Int32 → Prop) (hw : w_X1_targetOf N vrE x1 post) : Met l yX1_targetOf wsX1_targetOf rm_X1_targetOf (kPc G (tyL cI cJ cZ) [.ref aR, .int x1] sz (wdR cI cJ cZ aR aE aC aF vrN vrA vrE vrC vrF)) (va_Qi (fun (r : Int32) (u : Unit) => post r ) (kB G (tyL cI cJ cZ) (va_A (wdR cI cJ cZ aR aE aC aF vrN vrA vrE vrC vrF) sz) (fun (u : Unit) => wdR cI cJ cZ aR aE aC aF vrN vrA vrE vrC vrF)) (va_A (wdR cI cJ cZ aR aE aC aF vrN vrA vrE vrC vrF) sz)) 0 0 (va_A (wdR cI cJ cZ aR aE aC aF vrN vrA vrE vrC vrF) sz) := by
  refine km_i (cc := cX1_targetOf) (maxL := 2) (by decide) rfl (Nat.le_of_ble_eq_true rfl) ?_
  intro p e s m below meth c A Q ls hx hb hml hts hown hnm hK hN hA hP hD hS hl hret
  replace hown : s.vm.findClass RX1 = some m.cls := hown
  replace hl : lv_has ls 2 [(0, .ref aR), (1, .int x1)] := hl
  unfold w_X1_targetOf at hw
  refine lv_aload_n hx hb dX1_targetOf_0 rfl (lv_at hl 0 rfl) ?_
  refine va_get (D := G) (ci := 1) (v := .ref aE) (C := RX1) (T := TX1) (N := 5) hx hb hts (fun _ h => List.mem_cons_of_mem _ (List.mem_append_right _ h)) hown hK hP 0 rfl rfl 2 (by decide) (hts _ (List.mem_of_getElem? (i := 1) rfl)) (fun _ h9 => h9) rfl dX1_targetOf_1 ?_
  refine lv_iload_n hx hb dX1_targetOf_4 rfl (lv_at hl 1 rfl) ?_
  have h_1 := hw.1
  replace hw := hw.2
  refine va_iald hx hb hK hP 1 0 rfl rfl h_1 dX1_targetOf_5 ?_
  refine lv_sipush (v := (300 : Int32)) hx hb dX1_targetOf_6 (by decide) ?_
  refine lv_irem hx hb dX1_targetOf_9 (by decide) ?_
  exact hret 10 ((vrE x1.toNatClampNeg) - (vrE x1.toNatClampNeg) / (300 : Int32) * (300 : Int32)) () _ _ _ dX1_targetOf_10 hw hP hD hS
def w_X1_isOpen (N : Nat) (vrC : Nat → Int32) (x1 : Int32) (post : Int32 → Prop) : Prop :=
  vp_in x1 4000 ∧ (((vrC x1.toNatClampNeg) ≤ (0 : Int32) → post (0 : Int32)) ∧ (¬ ((vrC x1.toNatClampNeg) ≤ (0 : Int32)) → post (1 : Int32)))
abbrev rm_X1_isOpen : Room := { frames := 0, cells := 0, slots := 0, locals := 0 }
set_option maxHeartbeats 4000000 in
set_option maxRecDepth 100000 in
theorem k_X1_isOpen (l : Launch) (G : va_G) (cI cJ cZ : ClassId) (aR aE aC aF : Nat) (sz N : Nat) (vrN : Int32) (vrA : Int32) (vrE : Nat → Int32) (vrC : Nat → Int32) (vrF : Nat → Int32) (x1 : Int32) (post : Int32 → Prop) (hw : w_X1_isOpen N vrC x1 post) : Met l yX1_isOpen wsX1_isOpen rm_X1_isOpen (kPc G (tyL cI cJ cZ) [.ref aR, .int x1] sz (wdR cI cJ cZ aR aE aC aF vrN vrA vrE vrC vrF)) (va_Qi (fun (r : Int32) (u : Unit) => post r ) (kB G (tyL cI cJ cZ) (va_A (wdR cI cJ cZ aR aE aC aF vrN vrA vrE vrC vrF) sz) (fun (u : Unit) => wdR cI cJ cZ aR aE aC aF vrN vrA vrE vrC vrF)) (va_A (wdR cI cJ cZ aR aE aC aF vrN vrA vrE vrC vrF) sz)) 0 0 (va_A (wdR cI cJ cZ aR aE aC aF vrN vrA vrE vrC vrF) sz) := by
  refine km_z (cc := cX1_isOpen) (maxL := 2) (by decide) rfl (Nat.le_of_ble_eq_true rfl) ?_
  intro p e s m below meth c A Q ls hx hb hml hts hown hnm hK hN hA hP hD hS hl hret
  replace hown : s.vm.findClass RX1 = some m.cls := hown
  replace hl : lv_has ls 2 [(0, .ref aR), (1, .int x1)] := hl
  unfold w_X1_isOpen at hw
  refine lv_aload_n hx hb dX1_isOpen_0 rfl (lv_at hl 0 rfl) ?_
  refine va_get (D := G) (ci := 1) (v := .ref aC) (C := RX1) (T := TX1) (N := 5) hx hb hts (fun _ h => List.mem_cons_of_mem _ (List.mem_append_right _ h)) hown hK hP 0 rfl rfl 3 (by decide) (hts _ (List.mem_of_getElem? (i := 1) rfl)) (fun _ h9 => h9) rfl dX1_isOpen_1 ?_
  refine lv_iload_n hx hb dX1_isOpen_4 rfl (lv_at hl 1 rfl) ?_
  have h_1 := hw.1
  replace hw := hw.2
  refine va_iald hx hb hK hP 2 0 rfl rfl h_1 dX1_isOpen_5 ?_
  refine lv_if_le (tgt := 13) hx hb dX1_isOpen_6 (by decide) (fun c_2 => ?_) (fun c_2 => ?_)
  · replace hw := hw.1 c_2
    refine lv_iconst (v := (0 : Int32)) hx hb dX1_isOpen_13 (by decide) ?_
    exact hret 14 (0 : Int32) () _ _ _ dX1_isOpen_14 rfl hw hP hD hS
  · replace hw := hw.2 c_2
    refine lv_iconst (v := (1 : Int32)) hx hb dX1_isOpen_9 (by decide) ?_
    refine lv_goto (tgt := 14) hx hb dX1_isOpen_10 (by decide) ?_
    exact hret 14 (1 : Int32) () _ _ _ dX1_isOpen_14 rfl hw hP hD hS
def w_X1_weightOf (N : Nat) (vrC : Nat → Int32) (x1 : Int32) (post : Int64 → Prop) : Prop :=
  vp_in x1 4000 ∧ post ((((vrC x1.toNatClampNeg).toInt64) * (4096 : Int64)) + (1 : Int64))
abbrev rm_X1_weightOf : Room := { frames := 0, cells := 0, slots := 0, locals := 0 }
set_option maxHeartbeats 4000000 in
set_option maxRecDepth 100000 in
theorem k_X1_weightOf (l : Launch) (G : va_G) (cI cJ cZ : ClassId) (aR aE aC aF : Nat) (sz N : Nat) (vrN : Int32) (vrA : Int32) (vrE : Nat → Int32) (vrC : Nat → Int32) (vrF : Nat → Int32) (x1 : Int32) (post : Int64 → Prop) (hw : w_X1_weightOf N vrC x1 post) : Met l yX1_weightOf wsX1_weightOf rm_X1_weightOf (kPc G (tyL cI cJ cZ) [.ref aR, .int x1] sz (wdR cI cJ cZ aR aE aC aF vrN vrA vrE vrC vrF)) (va_Ql (fun (r : Int64) (u : Unit) => post r ) (kB G (tyL cI cJ cZ) (va_A (wdR cI cJ cZ aR aE aC aF vrN vrA vrE vrC vrF) sz) (fun (u : Unit) => wdR cI cJ cZ aR aE aC aF vrN vrA vrE vrC vrF)) (va_A (wdR cI cJ cZ aR aE aC aF vrN vrA vrE vrC vrF) sz)) 0 0 (va_A (wdR cI cJ cZ aR aE aC aF vrN vrA vrE vrC vrF) sz) := by
  refine km_l (cc := cX1_weightOf) (maxL := 2) (by decide) rfl (Nat.le_of_ble_eq_true rfl) ?_
  intro p e s m below meth c A Q ls hx hb hml hts hown hnm hK hN hA hP hD hS hl hret
  replace hown : s.vm.findClass RX1 = some m.cls := hown
  replace hl : lv_has ls 2 [(0, .ref aR), (1, .int x1)] := hl
  unfold w_X1_weightOf at hw
  refine lv_aload_n hx hb dX1_weightOf_0 rfl (lv_at hl 0 rfl) ?_
  refine va_get (D := G) (ci := 1) (v := .ref aC) (C := RX1) (T := TX1) (N := 5) hx hb hts (fun _ h => List.mem_cons_of_mem _ (List.mem_append_right _ h)) hown hK hP 0 rfl rfl 3 (by decide) (hts _ (List.mem_of_getElem? (i := 1) rfl)) (fun _ h9 => h9) rfl dX1_weightOf_1 ?_
  refine lv_iload_n hx hb dX1_weightOf_4 rfl (lv_at hl 1 rfl) ?_
  have h_1 := hw.1
  replace hw := hw.2
  refine va_iald hx hb hK hP 2 0 rfl rfl h_1 dX1_weightOf_5 ?_
  refine lv_i2l hx hb dX1_weightOf_6 rfl ?_
  refine lv_ldc2 (v := (4096 : Int64)) hx hb hown (hts _ (List.mem_of_getElem? (i := 2) rfl)) dX1_weightOf_7 ?_
  refine lv_lmul hx hb dX1_weightOf_10 ?_
  refine lv_lconst (v := (1 : Int64)) hx hb dX1_weightOf_11 (by decide) ?_
  refine lv_ladd hx hb dX1_weightOf_12 ?_
  exact hret 13 ((((vrC x1.toNatClampNeg).toInt64) * (4096 : Int64)) + (1 : Int64)) () _ _ _ dX1_weightOf_13 hw hP hD hS
