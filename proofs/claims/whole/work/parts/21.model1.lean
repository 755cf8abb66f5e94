def w_X5_size (N : Nat) (vmN : Int32) (vmR : Int32) (vmBN : Int32) (vmL : Int32) (x1 : Int32) (post : Int32 → Int32 → Int32 → Int32 → Int32 → Prop) : Prop :=
  ((x1 < (1 : Int32) → post (0 : Int32) vmN vmR vmBN vmL) ∧ (¬ (x1 < (1 : Int32)) → ((x1 ≤ (300 : Int32) → post (1 : Int32) x1 (0 : Int32) (0 : Int32) (0 : Int32)) ∧ (¬ (x1 ≤ (300 : Int32)) → post (0 : Int32) vmN vmR vmBN vmL))))
abbrev rm_X5_size : Room := { frames := 0, cells := 0, slots := 0, locals := 0 }
set_option maxHeartbeats 4000000 in
set_option maxRecDepth 100000 in
theorem k_X5_size (l : Launch) (G : va_G) (cI cJ cZ : ClassId) (aM aM1 aM2 aM3 aM4 aM6 aM8 aM9 aM10 aM11 aM12 aM13 aM15 : Nat) (sz N : Nat) (vmN : Int32) (vmR : Int32) (vmBN : Int32) (vmHN : Int32) (vmL : Int32) (vmLo : Nat → Int32) (vmHi : Nat → Int32) (vmC : Nat → Int32) (vmZ : Nat → Int32) (vmB : Nat → Int32) (vmT : Nat → Int64) (vmM : Nat → Int32) (vmK : Nat → Int32) (vmF : Nat → Int32) (vmX : Nat → Int32) (vmH : Nat → Int32) (vmRow : Nat → Int32) (x1 : Int32) (post : Int32 → Int32 → Int32 → Int32 → Int32 → Prop) (hw : w_X5_size N vmN vmR vmBN vmL x1 post) : Met l yX5_size wsX5_size rm_X5_size (kPc G (tyL cI cJ cZ) [.ref aM, .int x1] sz (wdM cI cJ cZ aM aM1 aM2 aM3 aM4 aM6 aM8 aM9 aM10 aM11 aM12 aM13 aM15 vmN vmR vmBN vmHN vmL vmLo vmHi vmC vmZ vmB vmT vmM vmK vmF vmX vmH vmRow)) (va_Qi (fun (r : Int32) (u : Int32 × Int32 × Int32 × Int32) => post r u.1 u.2.1 u.2.2.1 u.2.2.2) (kB G (tyL cI cJ cZ) (va_A (wdM cI cJ cZ aM aM1 aM2 aM3 aM4 aM6 aM8 aM9 aM10 aM11 aM12 aM13 aM15 vmN vmR vmBN vmHN vmL vmLo vmHi vmC vmZ vmB vmT vmM vmK vmF vmX vmH vmRow) sz) (fun (u : Int32 × Int32 × Int32 × Int32) => wdM cI cJ cZ aM aM1 aM2 aM3 aM4 aM6 aM8 aM9 aM10 aM11 aM12 aM13 aM15 u.1 u.2.1 u.2.2.1 vmHN u.2.2.2 vmLo vmHi vmC vmZ vmB vmT vmM vmK vmF vmX vmH vmRow)) (va_A (wdM cI cJ cZ aM aM1 aM2 aM3 aM4 aM6 aM8 aM9 aM10 aM11 aM12 aM13 aM15 vmN vmR vmBN vmHN vmL vmLo vmHi vmC vmZ vmB vmT vmM vmK vmF vmX vmH vmRow) sz)) 0 0 (va_A (wdM cI cJ cZ aM aM1 aM2 aM3 aM4 aM6 aM8 aM9 aM10 aM11 aM12 aM13 aM15 vmN vmR vmBN vmHN vmL vmLo vmHi vmC vmZ vmB vmT vmM vmK vmF vmX vmH vmRow) sz) := by
  refine km_z (cc := cX5_size) (maxL := 2) (by decide) rfl (Nat.le_of_ble_eq_true rfl) ?_
  intro p e s m below meth c A Q ls hx hb hml hts hown hnm hK hN hA hP hD hS hl hret
  replace hown : s.vm.findClass RX5 = some m.cls := hown
  replace hl : lv_has ls 2 [(0, .ref aM), (1, .int x1)] := hl
  unfold w_X5_size at hw
  refine lv_iload_n hx hb dX5_size_0 rfl (lv_at hl 1 rfl) ?_
  refine lv_iconst (v := (1 : Int32)) hx hb dX5_size_1 (by decide) ?_
  refine lv_icmp_lt (tgt := 12) hx hb dX5_size_2 (by decide) (fun c_1 => ?_) (fun c_1 => ?_)
  · replace hw := hw.1 c_1
    refine lv_iconst (v := (0 : Int32)) hx hb dX5_size_12 (by decide) ?_
    exact hret 13 (0 : Int32) (vmN, vmR, vmBN, vmL) _ _ _ dX5_size_13 rfl hw hP hD hS
  · replace hw := hw.2 c_1
    refine lv_iload_n hx hb dX5_size_5 rfl (lv_at hl 1 rfl) ?_
    refine lv_sipush (v := (300 : Int32)) hx hb dX5_size_6 (by decide) ?_
    refine lv_icmp_le (tgt := 14) hx hb dX5_size_9 (by decide) (fun c_2 => ?_) (fun c_2 => ?_)
    · replace hw := hw.1 c_2
      refine lv_aload_n hx hb dX5_size_14 rfl (lv_at hl 0 rfl) ?_
      refine lv_iload_n hx hb dX5_size_15 rfl (lv_at hl 1 rfl) ?_
      refine va_put (D := G) (ci := 5) (v := .int x1) (ty := .int) (C := RX5) (T := TX5) (N := 17) hx hb hts (fun _ h => List.mem_cons_of_mem _ (List.mem_append_right _ h)) tyX5 tyX5_ok nmX5 hown hK hP hD hS 0 rfl rfl 0 (by decide) (hts _ (List.mem_of_getElem? (i := 1) rfl)) (fun _ h9 => h9) rfl (by decide +kernel) rfl rfl (Nat.le_of_ble_eq_true rfl) dX5_size_16 (fun H locs hP hD hS => ?_)
      replace hP : va_P G vwCl (wdM cI cJ cZ aM aM1 aM2 aM3 aM4 aM6 aM8 aM9 aM10 aM11 aM12 aM13 aM15 x1 vmR vmBN vmHN vmL vmLo vmHi vmC vmZ vmB vmT vmM vmK vmF vmX vmH vmRow) H := hP
      replace hD : va_D A (wdM cI cJ cZ aM aM1 aM2 aM3 aM4 aM6 aM8 aM9 aM10 aM11 aM12 aM13 aM15 x1 vmR vmBN vmHN vmL vmLo vmHi vmC vmZ vmB vmT vmM vmK vmF vmX vmH vmRow) := hD
      refine lv_aload_n hx hb dX5_size_19 rfl (lv_at hl 0 rfl) ?_
      refine lv_iconst (v := (0 : Int32)) hx hb dX5_size_20 (by decide) ?_
      refine va_put (D := G) (ci := 5) (v := .int (0 : Int32)) (ty := .int) (C := RX5) (T := TX5) (N := 17) hx hb hts (fun _ h => List.mem_cons_of_mem _ (List.mem_append_right _ h)) tyX5 tyX5_ok nmX5 hown hK hP hD hS 0 rfl rfl 5 (by decide) (hts _ (List.mem_of_getElem? (i := 2) rfl)) (fun _ h9 => h9) rfl (by decide +kernel) rfl rfl (Nat.le_of_ble_eq_true rfl) dX5_size_21 (fun H locs hP hD hS => ?_)
      replace hP : va_P G vwCl (wdM cI cJ cZ aM aM1 aM2 aM3 aM4 aM6 aM8 aM9 aM10 aM11 aM12 aM13 aM15 x1 (0 : Int32) vmBN vmHN vmL vmLo vmHi vmC vmZ vmB vmT vmM vmK vmF vmX vmH vmRow) H := hP
      replace hD : va_D A (wdM cI cJ cZ aM aM1 aM2 aM3 aM4 aM6 aM8 aM9 aM10 aM11 aM12 aM13 aM15 x1 (0 : Int32) vmBN vmHN vmL vmLo vmHi vmC vmZ vmB vmT vmM vmK vmF vmX vmH vmRow) := hD
      refine lv_aload_n hx hb dX5_size_24 rfl (lv_at hl 0 rfl) ?_
      refine lv_iconst (v := (0 : Int32)) hx hb dX5_size_25 (by decide) ?_
      refine va_put (D := G) (ci := 5) (v := .int (0 : Int32)) (ty := .int) (C := RX5) (T := TX5) (N := 17) hx hb hts (fun _ h => List.mem_cons_of_mem _ (List.mem_append_right _ h)) tyX5 tyX5_ok nmX5 hown hK hP hD hS 0 rfl rfl 7 (by decide) (hts _ (List.mem_of_getElem? (i := 3) rfl)) (fun _ h9 => h9) rfl (by decide +kernel) rfl rfl (Nat.le_of_ble_eq_true rfl) dX5_size_26 (fun H locs hP hD hS => ?_)
      replace hP : va_P G vwCl (wdM cI cJ cZ aM aM1 aM2 aM3 aM4 aM6 aM8 aM9 aM10 aM11 aM12 aM13 aM15 x1 (0 : Int32) (0 : Int32) vmHN vmL vmLo vmHi vmC vmZ vmB vmT vmM vmK vmF vmX vmH vmRow) H := hP
      replace hD : va_D A (wdM cI cJ cZ aM aM1 aM2 aM3 aM4 aM6 aM8 aM9 aM10 aM11 aM12 aM13 aM15 x1 (0 : Int32) (0 : Int32) vmHN vmL vmLo vmHi vmC vmZ vmB vmT vmM vmK vmF vmX vmH vmRow) := hD
      refine lv_aload_n hx hb dX5_size_29 rfl (lv_at hl 0 rfl) ?_
      refine lv_iconst (v := (0 : Int32)) hx hb dX5_size_30 (by decide) ?_
      refine va_put (D := G) (ci := 5) (v := .int (0 : Int32)) (ty := .int) (C := RX5) (T := TX5) (N := 17) hx hb hts (fun _ h => List.mem_cons_of_mem _ (List.mem_append_right _ h)) tyX5 tyX5_ok nmX5 hown hK hP hD hS 0 rfl rfl 16 (by decide) (hts _ (List.mem_of_getElem? (i := 4) rfl)) (fun _ h9 => h9) rfl (by decide +kernel) rfl rfl (Nat.le_of_ble_eq_true rfl) dX5_size_31 (fun H locs hP hD hS => ?_)
      replace hP : va_P G vwCl (wdM cI cJ cZ aM aM1 aM2 aM3 aM4 aM6 aM8 aM9 aM10 aM11 aM12 aM13 aM15 x1 (0 : Int32) (0 : Int32) vmHN (0 : Int32) vmLo vmHi vmC vmZ vmB vmT vmM vmK vmF vmX vmH vmRow) H := hP
      replace hD : va_D A (wdM cI cJ cZ aM aM1 aM2 aM3 aM4 aM6 aM8 aM9 aM10 aM11 aM12 aM13 aM15 x1 (0 : Int32) (0 : Int32) vmHN (0 : Int32) vmLo vmHi vmC vmZ vmB vmT vmM vmK vmF vmX vmH vmRow) := hD
      refine lv_iconst (v := (1 : Int32)) hx hb dX5_size_34 (by decide) ?_
      exact hret 35 (1 : Int32) (x1, (0 : Int32), (0 : Int32), (0 : Int32)) _ _ _ dX5_size_35 rfl hw hP hD hS
    · replace hw := hw.2 c_2
      refine lv_iconst (v := (0 : Int32)) hx hb dX5_size_12 (by decide) ?_
      exact hret 13 (0 : Int32) (vmN, vmR, vmBN, vmL) _ _ _ dX5_size_13 rfl hw hP hD hS
def w_X5_isNode (N : Nat) (vmN : Int32) (x1 : Int32) (post : Int32 → Prop) : Prop :=
  ((x1 < (0 : Int32) → post (0 : Int32)) ∧ (¬ (x1 < (0 : Int32)) → ((vmN ≤ x1 → post (0 : Int32)) ∧ (¬ (vmN ≤ x1) → post (1 : Int32)))))
abbrev rm_X5_isNode : Room := { frames := 0, cells := 0, slots := 0, locals := 0 }
set_option maxHeartbeats 4000000 in
set_option maxRecDepth 100000 in
theorem k_X5_isNode (l : Launch) (G : va_G) (cI cJ cZ : ClassId) (aM aM1 aM2 aM3 aM4 aM6 aM8 aM9 aM10 aM11 aM12 aM13 aM15 : Nat) (sz N : Nat) (vmN : Int32) (vmR : Int32) (vmBN : Int32) (vmHN : Int32) (vmL : Int32) (vmLo : Nat → Int32) (vmHi : Nat → Int32) (vmC : Nat → Int32) (vmZ : Nat → Int32) (vmB : Nat → Int32) (vmT : Nat → Int64) (vmM : Nat → Int32) (vmK : Nat → Int32) (vmF : Nat → Int32) (vmX : Nat → Int32) (vmH : Nat → Int32) (vmRow : Nat → Int32) (x1 : Int32) (post : Int32 → Prop) (hw : w_X5_isNode N vmN x1 post) : Met l yX5_isNode wsX5_isNode rm_X5_isNode (kPc G (tyL cI cJ cZ) [.ref aM, .int x1] sz (wdM cI cJ cZ aM aM1 aM2 aM3 aM4 aM6 aM8 aM9 aM10 aM11 aM12 aM13 aM15 vmN vmR vmBN vmHN vmL vmLo vmHi vmC vmZ vmB vmT vmM vmK vmF vmX vmH vmRow)) (va_Qi (fun (r : Int32) (u : Unit) => post r ) (kB G (tyL cI cJ cZ) (va_A (wdM cI cJ cZ aM aM1 aM2 aM3 aM4 aM6 aM8 aM9 aM10 aM11 aM12 aM13 aM15 vmN vmR vmBN vmHN vmL vmLo vmHi vmC vmZ vmB vmT vmM vmK vmF vmX vmH vmRow) sz) (fun (u : Unit) => wdM cI cJ cZ aM aM1 aM2 aM3 aM4 aM6 aM8 aM9 aM10 aM11 aM12 aM13 aM15 vmN vmR vmBN vmHN vmL vmLo vmHi vmC vmZ vmB vmT vmM vmK vmF vmX vmH vmRow)) (va_A (wdM cI cJ cZ aM aM1 aM2 aM3 aM4 aM6 aM8 aM9 aM10 aM11 aM12 aM13 aM15 vmN vmR vmBN vmHN vmL vmLo vmHi vmC vmZ vmB vmT vmM vmK vmF vmX vmH vmRow) sz)) 0 0 (va_A (wdM cI cJ cZ aM aM1 aM2 aM3 aM4 aM6 aM8 aM9 aM10 aM11 aM12 aM13 aM15 vmN vmR vmBN vmHN vmL vmLo vmHi vmC vmZ vmB vmT vmM vmK vmF vmX vmH vmRow) sz) := by
  refine km_z (cc := cX5_isNode) (maxL := 2) (by decide) rfl (Nat.le_of_ble_eq_true rfl) ?_
  intro p e s m below meth c A Q ls hx hb hml hts hown hnm hK hN hA hP hD hS hl hret
  replace hown : s.vm.findClass RX5 = some m.cls := hown
  replace hl : lv_has ls 2 [(0, .ref aM), (1, .int x1)] := hl
  unfold w_X5_isNode at hw
  refine lv_iload_n hx hb dX5_isNode_0 rfl (lv_at hl 1 rfl) ?_
  refine lv_if_lt (tgt := 16) hx hb dX5_isNode_1 (by decide) (fun c_1 => ?_) (fun c_1 => ?_)
  · replace hw := hw.1 c_1
    refine lv_iconst (v := (0 : Int32)) hx hb dX5_isNode_16 (by decide) ?_
    exact hret 17 (0 : Int32) () _ _ _ dX5_isNode_17 rfl hw hP hD hS
  · replace hw := hw.2 c_1
    refine lv_iload_n hx hb dX5_isNode_4 rfl (lv_at hl 1 rfl) ?_
    refine lv_aload_n hx hb dX5_isNode_5 rfl (lv_at hl 0 rfl) ?_
    refine va_get (D := G) (ci := 5) (v := .int vmN) (C := RX5) (T := TX5) (N := 17) hx hb hts (fun _ h => List.mem_cons_of_mem _ (List.mem_append_right _ h)) hown hK hP 0 rfl rfl 0 (by decide) (hts _ (List.mem_of_getElem? (i := 1) rfl)) (fun _ h9 => h9) rfl dX5_isNode_6 ?_
    refine lv_icmp_ge (tgt := 16) hx hb dX5_isNode_9 (by decide) (fun c_2 => ?_) (fun c_2 => ?_)
    · replace hw := hw.1 c_2
      refine lv_iconst (v := (0 : Int32)) hx hb dX5_isNode_16 (by decide) ?_
      exact hret 17 (0 : Int32) () _ _ _ dX5_isNode_17 rfl hw hP hD hS
    · replace hw := hw.2 c_2
      refine lv_iconst (v := (1 : Int32)) hx hb dX5_isNode_12 (by decide) ?_
      refine lv_goto (tgt := 17) hx hb dX5_isNode_13 (by decide) ?_
      exact hret 17 (1 : Int32) () _ _ _ dX5_isNode_17 rfl hw hP hD hS
def w_X5_isBefore (N : Nat) (vmLo : Nat → Int32) (vmHi : Nat → Int32) (x1 : Int32) (x2 : Int32) (x3 : Int32) (post : Int32 → Prop) : Prop :=
  vp_in x1 2000 ∧ (((vmLo x1.toNatClampNeg) = x2 → ((x3 ≤ (vmHi x1.toNatClampNeg) → post (0 : Int32)) ∧ (¬ (x3 ≤ (vmHi x1.toNatClampNeg)) → post (1 : Int32)))) ∧ (¬ ((vmLo x1.toNatClampNeg) = x2) → ((x2 ≤ (vmLo x1.toNatClampNeg) → post (0 : Int32)) ∧ (¬ (x2 ≤ (vmLo x1.toNatClampNeg)) → post (1 : Int32)))))
abbrev rm_X5_isBefore : Room := { frames := 0, cells := 0, slots := 0, locals := 0 }
set_option maxHeartbeats 4000000 in
set_option maxRecDepth 100000 in
theorem k_X5_isBefore (l : Launch) (G : va_G) (cI cJ cZ : ClassId) (aM aM1 aM2 aM3 aM4 aM6 aM8 aM9 aM10 aM11 aM12 aM13 aM15 : Nat) (sz N : Nat) (vmN : Int32) (vmR : Int32) (vmBN : Int32) (vmHN : Int32) (vmL : Int32) (vmLo : Nat → Int32) (vmHi : Nat → Int32) (vmC : Nat → Int32) (vmZ : Nat → Int32) (vmB : Nat → Int32) (vmT : Nat → Int64) (vmM : Nat → Int32) (vmK : Nat → Int32) (vmF : Nat → Int32) (vmX : Nat → Int32) (vmH : Nat → Int32) (vmRow : Nat → Int32) (x1 : Int32) (x2 : Int32) (x3 : Int32) (post : Int32 → Prop) (hw : w_X5_isBefore N vmLo vmHi x1 x2 x3 post) : Met l yX5_isBefore wsX5_isBefore rm_X5_isBefore (kPc G (tyL cI cJ cZ) [.ref aM, .int x1, .int x2, .int x3] sz (wdM cI cJ cZ aM aM1 aM2 aM3 aM4 aM6 aM8 aM9 aM10 aM11 aM12 aM13 aM15 vmN vmR vmBN vmHN vmL vmLo vmHi vmC vmZ vmB vmT vmM vmK vmF vmX vmH vmRow)) (va_Qi (fun (r : Int32) (u : Unit) => post r ) (kB G (tyL cI cJ cZ) (va_A (wdM cI cJ cZ aM aM1 aM2 aM3 aM4 aM6 aM8 aM9 aM10 aM11 aM12 aM13 aM15 vmN vmR vmBN vmHN vmL vmLo vmHi vmC vmZ vmB vmT vmM vmK vmF vmX vmH vmRow) sz) (fun (u : Unit) => wdM cI cJ cZ aM aM1 aM2 aM3 aM4 aM6 aM8 aM9 aM10 aM11 aM12 aM13 aM15 vmN vmR vmBN vmHN vmL vmLo vmHi vmC vmZ vmB vmT vmM vmK vmF vmX vmH vmRow)) (va_A (wdM cI cJ cZ aM aM1 aM2 aM3 aM4 aM6 aM8 aM9 aM10 aM11 aM12 aM13 aM15 vmN vmR vmBN vmHN vmL vmLo vmHi vmC vmZ vmB vmT vmM vmK vmF vmX vmH vmRow) sz)) 0 0 (va_A (wdM cI cJ cZ aM aM1 aM2 aM3 aM4 aM6 aM8 aM9 aM10 aM11 aM12 aM13 aM15 vmN vmR vmBN vmHN vmL vmLo vmHi vmC vmZ vmB vmT vmM vmK vmF vmX vmH vmRow) sz) := by
  refine km_z (cc := cX5_isBefore) (maxL := 4) (by decide) rfl (Nat.le_of_ble_eq_true rfl) ?_
  intro p e s m below meth c A Q ls hx hb hml hts hown hnm hK hN hA hP hD hS hl hret
  replace hown : s.vm.findClass RX5 = some m.cls := hown
  replace hl : lv_has ls 4 [(0, .ref aM), (1, .int x1), (2, .int x2), (3, .int x3)] := hl
  unfold w_X5_isBefore at hw
  refine lv_aload_n hx hb dX5_isBefore_0 rfl (lv_at hl 0 rfl) ?_
  refine va_get (D := G) (ci := 5) (v := .ref aM1) (C := RX5) (T := TX5) (N := 17) hx hb hts (fun _ h => List.mem_cons_of_mem _ (List.mem_append_right _ h)) hown hK hP 0 rfl rfl 1 (by decide) (hts _ (List.mem_of_getElem? (i := 1) rfl)) (fun _ h9 => h9) rfl dX5_isBefore_1 ?_
  refine lv_iload_n hx hb dX5_isBefore_4 rfl (lv_at hl 1 rfl) ?_
  have h_1 := hw.1
  replace hw := hw.2
  refine va_iald hx hb hK hP 1 0 rfl rfl h_1 dX5_isBefore_5 ?_
  refine lv_iload_n hx hb dX5_isBefore_6 rfl (lv_at hl 2 rfl) ?_
  refine lv_icmp_eq (tgt := 28) hx hb dX5_isBefore_7 (by decide) (fun c_2 => ?_) (fun c_2 => ?_)
  · replace hw := hw.1 c_2
    refine lv_aload_n hx hb dX5_isBefore_28 rfl (lv_at hl 0 rfl) ?_
    refine va_get (D := G) (ci := 5) (v := .ref aM2) (C := RX5) (T := TX5) (N := 17) hx hb hts (fun _ h => List.mem_cons_of_mem _ (List.mem_append_right _ h)) hown hK hP 0 rfl rfl 2 (by decide) (hts _ (List.mem_of_getElem? (i := 2) rfl)) (fun _ h9 => h9) rfl dX5_isBefore_29 ?_
    refine lv_iload_n hx hb dX5_isBefore_32 rfl (lv_at hl 1 rfl) ?_
    refine va_iald hx hb hK hP 2 0 rfl rfl h_1 dX5_isBefore_33 ?_
    refine lv_iload_n hx hb dX5_isBefore_34 rfl (lv_at hl 3 rfl) ?_
    refine lv_icmp_ge (tgt := 42) hx hb dX5_isBefore_35 (by decide) (fun c_3 => ?_) (fun c_3 => ?_)
    · replace hw := hw.1 c_3
      refine lv_iconst (v := (0 : Int32)) hx hb dX5_isBefore_42 (by decide) ?_
      exact hret 43 (0 : Int32) () _ _ _ dX5_isBefore_43 rfl hw hP hD hS
    · replace hw := hw.2 c_3
      refine lv_iconst (v := (1 : Int32)) hx hb dX5_isBefore_38 (by decide) ?_
      refine lv_goto (tgt := 43) hx hb dX5_isBefore_39 (by decide) ?_
      exact hret 43 (1 : Int32) () _ _ _ dX5_isBefore_43 rfl hw hP hD hS
  · replace hw := hw.2 c_2
    refine lv_aload_n hx hb dX5_isBefore_10 rfl (lv_at hl 0 rfl) ?_
    refine va_get (D := G) (ci := 5) (v := .ref aM1) (C := RX5) (T := TX5) (N := 17) hx hb hts (fun _ h => List.mem_cons_of_mem _ (List.mem_append_right _ h)) hown hK hP 0 rfl rfl 1 (by decide) (hts _ (List.mem_of_getElem? (i := 1) rfl)) (fun _ h9 => h9) rfl dX5_isBefore_11 ?_
    refine lv_iload_n hx hb dX5_isBefore_14 rfl (lv_at hl 1 rfl) ?_
    refine va_iald hx hb hK hP 1 0 rfl rfl h_1 dX5_isBefore_15 ?_
    refine lv_iload_n hx hb dX5_isBefore_16 rfl (lv_at hl 2 rfl) ?_
    refine lv_icmp_ge (tgt := 24) hx hb dX5_isBefore_17 (by decide) (fun c_4 => ?_) (fun c_4 => ?_)
    · replace hw := hw.1 c_4
      refine lv_iconst (v := (0 : Int32)) hx hb dX5_isBefore_24 (by decide) ?_
      refine lv_goto (tgt := 43) hx hb dX5_isBefore_25 (by decide) ?_
      exact hret 43 (0 : Int32) () _ _ _ dX5_isBefore_43 rfl hw hP hD hS
    · replace hw := hw.2 c_4
      refine lv_iconst (v := (1 : Int32)) hx hb dX5_isBefore_20 (by decide) ?_
      refine lv_goto (tgt := 43) hx hb dX5_isBefore_21 (by decide) ?_
      exact hret 43 (1 : Int32) () _ _ _ dX5_isBefore_43 rfl hw hP hD hS
def w_X5_placeOf_b8_B (N : Nat) (vmLo : Nat → Int32) (vmHi : Nat → Int32) (x1 : Int32) (x2 : Int32) (post : Int32 → Prop) (k8 : Int32 → Int32 → Prop) (x3_b8 : Int32) (x4_b8 : Int32) : Prop :=
  ((x4_b8 ≤ x3_b8 → post x3_b8) ∧ (¬ (x4_b8 ≤ x3_b8) → ∀ x5_2 : Int32, x5_2 = ((x3_b8 + x4_b8) / (2 : Int32)) → w_X5_isBefore N vmLo vmHi x5_2 (if x2 < x1 then x2 else x1) (if x1 < x2 then x2 else x1) (fun r_4 => ((r_4 = (0 : Int32) → k8 x3_b8 x5_2) ∧ (¬ (r_4 = (0 : Int32)) → ∀ x3_6 : Int32, x3_6 = (x5_2 + (1 : Int32)) → k8 x3_6 x4_b8)))))
def w_X5_placeOf_b8 (N : Nat) (vmLo : Nat → Int32) (vmHi : Nat → Int32) (x1 : Int32) (x2 : Int32) (post : Int32 → Prop) : Nat → Int32 → Int32 → Prop
  | 0, _, _ => False
  | n + 1, x3_b8, x4_b8 => w_X5_placeOf_b8_B N vmLo vmHi x1 x2 post (w_X5_placeOf_b8 N vmLo vmHi x1 x2 post n) x3_b8 x4_b8
def w_X5_placeOf (N : Nat) (vmR : Int32) (vmLo : Nat → Int32) (vmHi : Nat → Int32) (x1 : Int32) (x2 : Int32) (post : Int32 → Prop) : Prop :=
  w_X5_placeOf_b8 N vmLo vmHi x1 x2 post N (0 : Int32) vmR
abbrev rm_X5_placeOf : Room := { frames := 1, cells := 0, slots := 0, locals := 23 }
set_option maxHeartbeats 4000000 in
set_option maxRecDepth 100000 in
theorem k_X5_placeOf (l : Launch) (G : va_G) (cI cJ cZ : ClassId) (aM aM1 aM2 aM3 aM4 aM6 aM8 aM9 aM10 aM11 aM12 aM13 aM15 : Nat) (sz N : Nat) (vmN : Int32) (vmR : Int32) (vmBN : Int32) (vmHN : Int32) (vmL : Int32) (vmLo : Nat → Int32) (vmHi : Nat → Int32) (vmC : Nat → Int32) (vmZ : Nat → Int32) (vmB : Nat → Int32) (vmT : Nat → Int64) (vmM : Nat → Int32) (vmK : Nat → Int32) (vmF : Nat → Int32) (vmX : Nat → Int32) (vmH : Nat → Int32) (vmRow : Nat → Int32) (x1 : Int32) (x2 : Int32) (post : Int32 → Prop) (hw : w_X5_placeOf N vmR vmLo vmHi x1 x2 post) : Met l yX5_placeOf wsX5_placeOf rm_X5_placeOf (kPc G (tyL cI cJ cZ) [.ref aM, .int x1, .int x2] sz (wdM cI cJ cZ aM aM1 aM2 aM3 aM4 aM6 aM8 aM9 aM10 aM11 aM12 aM13 aM15 vmN vmR vmBN vmHN vmL vmLo vmHi vmC vmZ vmB vmT vmM vmK vmF vmX vmH vmRow)) (va_Qi (fun (r : Int32) (u : Unit) => post r ) (kB G (tyL cI cJ cZ) (va_A (wdM cI cJ cZ aM aM1 aM2 aM3 aM4 aM6 aM8 aM9 aM10 aM11 aM12 aM13 aM15 vmN vmR vmBN vmHN vmL vmLo vmHi vmC vmZ vmB vmT vmM vmK vmF vmX vmH vmRow) sz) (fun (u : Unit) => wdM cI cJ cZ aM aM1 aM2 aM3 aM4 aM6 aM8 aM9 aM10 aM11 aM12 aM13 aM15 vmN vmR vmBN vmHN vmL vmLo vmHi vmC vmZ vmB vmT vmM vmK vmF vmX vmH vmRow)) (va_A (wdM cI cJ cZ aM aM1 aM2 aM3 aM4 aM6 aM8 aM9 aM10 aM11 aM12 aM13 aM15 vmN vmR vmBN vmHN vmL vmLo vmHi vmC vmZ vmB vmT vmM vmK vmF vmX vmH vmRow) sz)) 0 0 (va_A (wdM cI cJ cZ aM aM1 aM2 aM3 aM4 aM6 aM8 aM9 aM10 aM11 aM12 aM13 aM15 vmN vmR vmBN vmHN vmL vmLo vmHi vmC vmZ vmB vmT vmM vmK vmF vmX vmH vmRow) sz) := by
  refine km_i (cc := cX5_placeOf) (maxL := 6) (by decide) rfl (Nat.le_of_ble_eq_true rfl) ?_
  intro p e s m below meth c A Q ls hx hb hml hts hown hnm hK hN hA hP hD hS hl hret
  replace hown : s.vm.findClass RX5 = some m.cls := hown
  replace hl : lv_has ls 6 [(0, .ref aM), (1, .int x1), (2, .int x2)] := hl
  have b8 : ∀ (n8 : Nat) (x3_b8 : Int32) (x4_b8 : Int32) (H : Heap) (locs : List Loc) (ls : Array Slot), w_X5_placeOf_b8 N vmLo vmHi x1 x2 post n8 x3_b8 x4_b8 → va_P G vwCl (wdM cI cJ cZ aM aM1 aM2 aM3 aM4 aM6 aM8 aM9 aM10 aM11 aM12 aM13 aM15 vmN vmR vmBN vmHN vmL vmLo vmHi vmC vmZ vmB vmT vmM vmK vmF vmX vmH vmRow) H → va_D A (wdM cI cJ cZ aM aM1 aM2 aM3 aM4 aM6 aM8 aM9 aM10 aM11 aM12 aM13 aM15 vmN vmR vmBN vmHN vmL vmLo vmHi vmC vmZ vmB vmT vmM vmK vmF vmX vmH vmRow) → va_S A s.heap H locs → lv_has ls 6 [(0, .ref aM), (1, .int x1), (2, .int x2), (3, .int x3_b8), (4, .int x4_b8)] → W p l e rm_X5_placeOf s m ([.ref aM, .int x1, .int x2] : List Value).toArray below meth c H locs 0 0 Q (F0 m 8 ls []) := by
    intro n8
    induction n8 with
    | zero => intro x3_b8 x4_b8 H locs ls hw; exact hw.elim
    | succ n8 ih8 =>
      intro x3_b8 x4_b8 H locs ls hw hP hD hS hl
      replace hw : w_X5_placeOf_b8_B N vmLo vmHi x1 x2 post (w_X5_placeOf_b8 N vmLo vmHi x1 x2 post n8) x3_b8 x4_b8 := hw
      unfold w_X5_placeOf_b8_B at hw
      refine lv_iload_n hx hb dX5_placeOf_8 rfl (lv_at hl 3 rfl) ?_
      refine lv_iload hx hb dX5_placeOf_9 (lv_at hl 4 rfl) ?_
      refine lv_icmp_ge (tgt := 56) hx hb dX5_placeOf_11 (by decide) (fun c_1 => ?_) (fun c_1 => ?_)
      · replace hw := hw.1 c_1
        refine lv_iload_n hx hb dX5_placeOf_56 rfl (lv_at hl 3 rfl) ?_
        exact hret 57 x3_b8 () _ _ _ dX5_placeOf_57 hw hP hD hS
      · replace hw := hw.2 c_1
        refine lv_iload_n hx hb dX5_placeOf_14 rfl (lv_at hl 3 rfl) ?_
        refine lv_iload hx hb dX5_placeOf_15 (lv_at hl 4 rfl) ?_
        refine lv_iadd hx hb dX5_placeOf_17 ?_
        refine lv_iconst (v := (2 : Int32)) hx hb dX5_placeOf_18 (by decide) ?_
        refine lv_idiv hx hb dX5_placeOf_19 (by decide) ?_
        refine lv_topi (fun x5_2 e_3 => ?_)
        replace hw := hw x5_2 e_3
        refine lv_istore (lv' := [(5, .int x5_2), (0, .ref aM), (1, .int x1), (2, .int x2), (3, .int x3_b8), (4, .int x4_b8)]) hx hb dX5_placeOf_20 hl (by decide) rfl (fun ls hl => ?_)
        refine lv_aload_n hx hb dX5_placeOf_22 rfl (lv_at hl 1 rfl) ?_
        refine lv_iload hx hb dX5_placeOf_23 (lv_at hl 0 rfl) ?_
        refine lv_iload_n hx hb dX5_placeOf_25 rfl (lv_at hl 2 rfl) ?_
        refine lv_iload_n hx hb dX5_placeOf_26 rfl (lv_at hl 3 rfl) ?_
        refine va_mmin hx hb (by rw [hml]; exact hl.1.symm) hown (hts _ (List.mem_of_getElem? (i := 2) rfl)) (hts _ (List.mem_of_getElem? (i := 3) rfl)) (hts _ (List.mem_of_getElem? (i := 4) rfl)) (hts _ (List.mem_of_getElem? (i := 5) rfl)) (Nat.le_of_ble_eq_true rfl) (Nat.le_of_ble_eq_true rfl) (Nat.le_of_ble_eq_true rfl) (Nat.le_of_ble_eq_true rfl) dX5_placeOf_27 ?_
        refine lv_iload_n hx hb dX5_placeOf_30 rfl (lv_at hl 2 rfl) ?_
        refine lv_iload_n hx hb dX5_placeOf_31 rfl (lv_at hl 3 rfl) ?_
        refine va_mmax hx hb (by rw [hml]; exact hl.1.symm) hown (hts _ (List.mem_of_getElem? (i := 6) rfl)) (hts _ (List.mem_of_getElem? (i := 7) rfl)) (hts _ (List.mem_of_getElem? (i := 4) rfl)) (hts _ (List.mem_of_getElem? (i := 8) rfl)) (Nat.le_of_ble_eq_true rfl) (Nat.le_of_ble_eq_true rfl) (Nat.le_of_ble_eq_true rfl) (Nat.le_of_ble_eq_true rfl) dX5_placeOf_32 ?_
        refine kc_Vi (As := [.int x5_2, .int (if x2 < x1 then x2 else x1), .int (if x1 < x2 then x2 else x1)]) (rest := []) (wc := wdM cI cJ cZ aM aM1 aM2 aM3 aM4 aM6 aM8 aM9 aM10 aM11 aM12 aM13 aM15 vmN vmR vmBN vmHN vmL vmLo vmHi vmC vmZ vmB vmT vmM vmK vmF vmX vmH vmRow) (wr := []) ⟨hx, hb, hml, hown, hts⟩ (cwV 3 hts gX5_placeOf_X5_isBefore rfl rfl rfl (by decide +kernel) ⟨Nat.le_of_ble_eq_true rfl, Nat.le_of_ble_eq_true rfl⟩) hK hN hA hP hD hS [0, 1, 2, 3, 4, 5, 6, 7, 8, 9, 10, 11, 12] [] rfl rfl (by decide) (by decide) (by decide) 0 rfl rfl (k_X5_isBefore l G cI cJ cZ aM aM1 aM2 aM3 aM4 aM6 aM8 aM9 aM10 aM11 aM12 aM13 aM15 _ N vmN vmR vmBN vmHN vmL vmLo vmHi vmC vmZ vmB vmT vmM vmK vmF vmX vmH vmRow x5_2 (if x2 < x1 then x2 else x1) (if x1 < x2 then x2 else x1) _ hw) rfl hl.1 rfl (Nat.le_of_ble_eq_true rfl) dX5_placeOf_35 ⟨Nat.le_of_ble_eq_true rfl, Nat.le_of_ble_eq_true rfl⟩ (fun r_4 u_ H locs hw hP hD hS => ?_)
        replace hP : va_P G vwCl (wdM cI cJ cZ aM aM1 aM2 aM3 aM4 aM6 aM8 aM9 aM10 aM11 aM12 aM13 aM15 vmN vmR vmBN vmHN vmL vmLo vmHi vmC vmZ vmB vmT vmM vmK vmF vmX vmH vmRow) H := hP.sub [0, 1, 2, 3, 4, 5, 6, 7, 8, 9, 10, 11, 12] rfl
        replace hD : va_D A (wdM cI cJ cZ aM aM1 aM2 aM3 aM4 aM6 aM8 aM9 aM10 aM11 aM12 aM13 aM15 vmN vmR vmBN vmHN vmL vmLo vmHi vmC vmZ vmB vmT vmM vmK vmF vmX vmH vmRow) := hD.sub [0, 1, 2, 3, 4, 5, 6, 7, 8, 9, 10, 11, 12] (by decide) rfl
        refine lv_if_eq (tgt := 49) hx hb dX5_placeOf_38 (by decide) (fun c_5 => ?_) (fun c_5 => ?_)
        · replace hw := hw.1 c_5
          refine lv_iload hx hb dX5_placeOf_49 (lv_at hl 0 rfl) ?_
          refine lv_istore (lv' := [(4, .int x5_2), (5, .int x5_2), (0, .ref aM), (1, .int x1), (2, .int x2), (3, .int x3_b8)]) hx hb dX5_placeOf_51 hl (by decide) rfl (fun ls hl => ?_)
          refine lv_goto (tgt := 8) hx hb dX5_placeOf_53 (by decide) ?_
          replace hl : lv_has ls 6 [(0, .ref aM), (1, .int x1), (2, .int x2), (3, .int x3_b8), (4, .int x5_2)] := lv_sub hl [2, 3, 4, 5, 0] rfl
          exact ih8 x3_b8 x5_2 _ _ _ hw hP hD hS hl
        · replace hw := hw.2 c_5
          refine lv_iload hx hb dX5_placeOf_41 (lv_at hl 0 rfl) ?_
          refine lv_iconst (v := (1 : Int32)) hx hb dX5_placeOf_43 (by decide) ?_
          refine lv_iadd hx hb dX5_placeOf_44 ?_
          refine lv_topi (fun x3_6 e_7 => ?_)
          replace hw := hw x3_6 e_7
          refine lv_istore_n (lv' := [(3, .int x3_6), (5, .int x5_2), (0, .ref aM), (1, .int x1), (2, .int x2), (4, .int x4_b8)]) hx hb dX5_placeOf_45 rfl hl (by decide) rfl (fun ls hl => ?_)
          refine lv_goto (tgt := 53) hx hb dX5_placeOf_46 (by decide) ?_
          refine lv_goto (tgt := 8) hx hb dX5_placeOf_53 (by decide) ?_
          replace hl : lv_has ls 6 [(0, .ref aM), (1, .int x1), (2, .int x2), (3, .int x3_6), (4, .int x4_b8)] := lv_sub hl [2, 3, 4, 0, 5] rfl
          exact ih8 x3_6 x4_b8 _ _ _ hw hP hD hS hl
  unfold w_X5_placeOf at hw
  refine lv_iconst (v := (0 : Int32)) hx hb dX5_placeOf_0 (by decide) ?_
  refine lv_istore_n (lv' := [(3, .int (0 : Int32)), (0, .ref aM), (1, .int x1), (2, .int x2)]) hx hb dX5_placeOf_1 rfl hl (by decide) rfl (fun ls hl => ?_)
  refine lv_aload_n hx hb dX5_placeOf_2 rfl (lv_at hl 1 rfl) ?_
  refine va_get (D := G) (ci := 5) (v := .int vmR) (C := RX5) (T := TX5) (N := 17) hx hb hts (fun _ h => List.mem_cons_of_mem _ (List.mem_append_right _ h)) hown hK hP 0 rfl rfl 5 (by decide) (hts _ (List.mem_of_getElem? (i := 1) rfl)) (fun _ h9 => h9) rfl dX5_placeOf_3 ?_
  refine lv_istore (lv' := [(4, .int vmR), (3, .int (0 : Int32)), (0, .ref aM), (1, .int x1), (2, .int x2)]) hx hb dX5_placeOf_6 hl (by decide) rfl (fun ls hl => ?_)
  replace hl : lv_has ls 6 [(0, .ref aM), (1, .int x1), (2, .int x2), (3, .int (0 : Int32)), (4, .int vmR)] := lv_sub hl [2, 3, 4, 1, 0] rfl
  exact b8 N (0 : Int32) vmR _ _ _ hw hP hD hS hl
def w_X5_find (N : Nat) (vmR : Int32) (vmLo : Nat → Int32) (vmHi : Nat → Int32) (x1 : Int32) (x2 : Int32) (post : Int32 → Prop) : Prop :=
  w_X5_placeOf N vmR vmLo vmHi x1 x2 (fun r_1 => ((vmR ≤ r_1 → post (-1 : Int32)) ∧ (¬ (vmR ≤ r_1) → vp_in r_1 2000 ∧ ((¬ (vmLo r_1.toNatClampNeg) = (if x2 < x1 then x2 else x1) → post (-1 : Int32)) ∧ ((vmLo r_1.toNatClampNeg) = (if x2 < x1 then x2 else x1) → ((¬ (vmHi r_1.toNatClampNeg) = (if x1 < x2 then x2 else x1) → post (-1 : Int32)) ∧ ((vmHi r_1.toNatClampNeg) = (if x1 < x2 then x2 else x1) → post r_1)))))))
abbrev rm_X5_find : Room := { frames := 2, cells := 0, slots := 0, locals := 48 }
set_option maxHeartbeats 4000000 in
set_option maxRecDepth 100000 in
theorem k_X5_find (l : Launch) (G : va_G) (cI cJ cZ : ClassId) (aM aM1 aM2 aM3 aM4 aM6 aM8 aM9 aM10 aM11 aM12 aM13 aM15 : Nat) (sz N : Nat) (vmN : Int32) (vmR : Int32) (vmBN : Int32) (vmHN : Int32) (vmL : Int32) (vmLo : Nat → Int32) (vmHi : Nat → Int32) (vmC : Nat → Int32) (vmZ : Nat → Int32) (vmB : Nat → Int32) (vmT : Nat → Int64) (vmM : Nat → Int32) (vmK : Nat → Int32) (vmF : Nat → Int32) (vmX : Nat → Int32) (vmH : Nat → Int32) (vmRow : Nat → Int32) (x1 : Int32) (x2 : Int32) (post : Int32 → Prop) (hw : w_X5_find N vmR vmLo vmHi x1 x2 post) : Met l yX5_find wsX5_find rm_X5_find (kPc G (tyL cI cJ cZ) [.ref aM, .int x1, .int x2] sz (wdM cI cJ cZ aM aM1 aM2 aM3 aM4 aM6 aM8 aM9 aM10 aM11 aM12 aM13 aM15 vmN vmR vmBN vmHN vmL vmLo vmHi vmC vmZ vmB vmT vmM vmK vmF vmX vmH vmRow)) (va_Qi (fun (r : Int32) (u : Unit) => post r ) (kB G (tyL cI cJ cZ) (va_A (wdM cI cJ cZ aM aM1 aM2 aM3 aM4 aM6 aM8 aM9 aM10 aM11 aM12 aM13 aM15 vmN vmR vmBN vmHN vmL vmLo vmHi vmC vmZ vmB vmT vmM vmK vmF vmX vmH vmRow) sz) (fun (u : Unit) => wdM cI cJ cZ aM aM1 aM2 aM3 aM4 aM6 aM8 aM9 aM10 aM11 aM12 aM13 aM15 vmN vmR vmBN vmHN vmL vmLo vmHi vmC vmZ vmB vmT vmM vmK vmF vmX vmH vmRow)) (va_A (wdM cI cJ cZ aM aM1 aM2 aM3 aM4 aM6 aM8 aM9 aM10 aM11 aM12 aM13 aM15 vmN vmR vmBN vmHN vmL vmLo vmHi vmC vmZ vmB vmT vmM vmK vmF vmX vmH vmRow) sz)) 0 0 (va_A (wdM cI cJ cZ aM aM1 aM2 aM3 aM4 aM6 aM8 aM9 aM10 aM11 aM12 aM13 aM15 vmN vmR vmBN vmHN vmL vmLo vmHi vmC vmZ vmB vmT vmM vmK vmF vmX vmH vmRow) sz) := by
  refine km_i (cc := cX5_find) (maxL := 4) (by decide) rfl (Nat.le_of_ble_eq_true rfl) ?_
  intro p e s m below meth c A Q ls hx hb hml hts hown hnm hK hN hA hP hD hS hl hret
  replace hown : s.vm.findClass RX5 = some m.cls := hown
  replace hl : lv_has ls 4 [(0, .ref aM), (1, .int x1), (2, .int x2)] := hl
  unfold w_X5_find at hw
  refine lv_aload_n hx hb dX5_find_0 rfl (lv_at hl 0 rfl) ?_
  refine lv_iload_n hx hb dX5_find_1 rfl (lv_at hl 1 rfl) ?_
  refine lv_iload_n hx hb dX5_find_2 rfl (lv_at hl 2 rfl) ?_
  refine kc_Vi (As := [.int x1, .int x2]) (rest := []) (wc := wdM cI cJ cZ aM aM1 aM2 aM3 aM4 aM6 aM8 aM9 aM10 aM11 aM12 aM13 aM15 vmN vmR vmBN vmHN vmL vmLo vmHi vmC vmZ vmB vmT vmM vmK vmF vmX vmH vmRow) (wr := []) ⟨hx, hb, hml, hown, hts⟩ (cwV 2 hts gX5_find_X5_placeOf rfl rfl rfl (by decide +kernel) ⟨Nat.le_of_ble_eq_true rfl, Nat.le_of_ble_eq_true rfl⟩) hK hN hA hP hD hS [0, 1, 2, 3, 4, 5, 6, 7, 8, 9, 10, 11, 12] [] rfl rfl (by decide) (by decide) (by decide) 0 rfl rfl (k_X5_placeOf l G cI cJ cZ aM aM1 aM2 aM3 aM4 aM6 aM8 aM9 aM10 aM11 aM12 aM13 aM15 _ N vmN vmR vmBN vmHN vmL vmLo vmHi vmC vmZ vmB vmT vmM vmK vmF vmX vmH vmRow x1 x2 _ hw) rfl hl.1 rfl (Nat.le_of_ble_eq_true rfl) dX5_find_3 ⟨Nat.le_of_ble_eq_true rfl, Nat.le_of_ble_eq_true rfl⟩ (fun r_1 u_ H locs hw hP hD hS => ?_)
  replace hP : va_P G vwCl (wdM cI cJ cZ aM aM1 aM2 aM3 aM4 aM6 aM8 aM9 aM10 aM11 aM12 aM13 aM15 vmN vmR vmBN vmHN vmL vmLo vmHi vmC vmZ vmB vmT vmM vmK vmF vmX vmH vmRow) H := hP.sub [0, 1, 2, 3, 4, 5, 6, 7, 8, 9, 10, 11, 12] rfl
  replace hD : va_D A (wdM cI cJ cZ aM aM1 aM2 aM3 aM4 aM6 aM8 aM9 aM10 aM11 aM12 aM13 aM15 vmN vmR vmBN vmHN vmL vmLo vmHi vmC vmZ vmB vmT vmM vmK vmF vmX vmH vmRow) := hD.sub [0, 1, 2, 3, 4, 5, 6, 7, 8, 9, 10, 11, 12] (by decide) rfl
  refine lv_istore_n (lv' := [(3, .int r_1), (0, .ref aM), (1, .int x1), (2, .int x2)]) hx hb dX5_find_6 rfl hl (by decide) rfl (fun ls hl => ?_)
  refine lv_iload_n hx hb dX5_find_7 rfl (lv_at hl 0 rfl) ?_
  refine lv_aload_n hx hb dX5_find_8 rfl (lv_at hl 1 rfl) ?_
  refine va_get (D := G) (ci := 5) (v := .int vmR) (C := RX5) (T := TX5) (N := 17) hx hb hts (fun _ h => List.mem_cons_of_mem _ (List.mem_append_right _ h)) hown hK hP 0 rfl rfl 5 (by decide) (hts _ (List.mem_of_getElem? (i := 1) rfl)) (fun _ h9 => h9) rfl dX5_find_9 ?_
  refine lv_icmp_ge (tgt := 47) hx hb dX5_find_12 (by decide) (fun c_2 => ?_) (fun c_2 => ?_)
  · replace hw := hw.1 c_2
    refine lv_iconst (v := (-1 : Int32)) hx hb dX5_find_47 (by decide) ?_
    exact hret 48 (-1 : Int32) () _ _ _ dX5_find_48 hw hP hD hS
  · replace hw := hw.2 c_2
    refine lv_aload_n hx hb dX5_find_15 rfl (lv_at hl 1 rfl) ?_
    refine va_get (D := G) (ci := 5) (v := .ref aM1) (C := RX5) (T := TX5) (N := 17) hx hb hts (fun _ h => List.mem_cons_of_mem _ (List.mem_append_right _ h)) hown hK hP 0 rfl rfl 1 (by decide) (hts _ (List.mem_of_getElem? (i := 2) rfl)) (fun _ h9 => h9) rfl dX5_find_16 ?_
    refine lv_iload_n hx hb dX5_find_19 rfl (lv_at hl 0 rfl) ?_
    have h_3 := hw.1
    replace hw := hw.2
    refine va_iald hx hb hK hP 1 0 rfl rfl h_3 dX5_find_20 ?_
    refine lv_iload_n hx hb dX5_find_21 rfl (lv_at hl 2 rfl) ?_
    refine lv_iload_n hx hb dX5_find_22 rfl (lv_at hl 3 rfl) ?_
    refine va_mmin hx hb (by rw [hml]; exact hl.1.symm) hown (hts _ (List.mem_of_getElem? (i := 3) rfl)) (hts _ (List.mem_of_getElem? (i := 4) rfl)) (hts _ (List.mem_of_getElem? (i := 5) rfl)) (hts _ (List.mem_of_getElem? (i := 6) rfl)) (Nat.le_of_ble_eq_true rfl) (Nat.le_of_ble_eq_true rfl) (Nat.le_of_ble_eq_true rfl) (Nat.le_of_ble_eq_true rfl) dX5_find_23 ?_
    refine lv_icmp_ne (tgt := 47) hx hb dX5_find_26 (by decide) (fun c_4 => ?_) (fun c_4 => ?_)
    · replace hw := hw.1 c_4
      refine lv_iconst (v := (-1 : Int32)) hx hb dX5_find_47 (by decide) ?_
      exact hret 48 (-1 : Int32) () _ _ _ dX5_find_48 hw hP hD hS
    · replace hw := hw.2 c_4
      refine lv_aload_n hx hb dX5_find_29 rfl (lv_at hl 1 rfl) ?_
      refine va_get (D := G) (ci := 5) (v := .ref aM2) (C := RX5) (T := TX5) (N := 17) hx hb hts (fun _ h => List.mem_cons_of_mem _ (List.mem_append_right _ h)) hown hK hP 0 rfl rfl 2 (by decide) (hts _ (List.mem_of_getElem? (i := 7) rfl)) (fun _ h9 => h9) rfl dX5_find_30 ?_
      refine lv_iload_n hx hb dX5_find_33 rfl (lv_at hl 0 rfl) ?_
      refine va_iald hx hb hK hP 2 0 rfl rfl h_3 dX5_find_34 ?_
      refine lv_iload_n hx hb dX5_find_35 rfl (lv_at hl 2 rfl) ?_
      refine lv_iload_n hx hb dX5_find_36 rfl (lv_at hl 3 rfl) ?_
      refine va_mmax hx hb (by rw [hml]; exact hl.1.symm) hown (hts _ (List.mem_of_getElem? (i := 8) rfl)) (hts _ (List.mem_of_getElem? (i := 9) rfl)) (hts _ (List.mem_of_getElem? (i := 5) rfl)) (hts _ (List.mem_of_getElem? (i := 10) rfl)) (Nat.le_of_ble_eq_true rfl) (Nat.le_of_ble_eq_true rfl) (Nat.le_of_ble_eq_true rfl) (Nat.le_of_ble_eq_true rfl) dX5_find_37 ?_
      refine lv_icmp_ne (tgt := 47) hx hb dX5_find_40 (by decide) (fun c_5 => ?_) (fun c_5 => ?_)
      · replace hw := hw.1 c_5
        refine lv_iconst (v := (-1 : Int32)) hx hb dX5_find_47 (by decide) ?_
        exact hret 48 (-1 : Int32) () _ _ _ dX5_find_48 hw hP hD hS
      · replace hw := hw.2 c_5
        refine lv_iload_n hx hb dX5_find_43 rfl (lv_at hl 0 rfl) ?_
        refine lv_goto (tgt := 48) hx hb dX5_find_44 (by decide) ?_
        exact hret 48 r_1 () _ _ _ dX5_find_48 hw hP hD hS
def w_X5_close (N : Nat) (vmR : Int32) (vmLo : Nat → Int32) (vmHi : Nat → Int32) (vmZ : Nat → Int32) (x1 : Int32) (x2 : Int32) (x3 : Int32) (post : Int32 → (Nat → Int32) → Prop) : Prop :=
  w_X5_find N vmR vmLo vmHi x1 x2 (fun r_1 => ((r_1 < (0 : Int32) → post (0 : Int32) vmZ) ∧ (¬ (r_1 < (0 : Int32)) → vp_in r_1 2000 ∧ ((¬ (vmZ r_1.toNatClampNeg) = x3 → post (1 : Int32) (upd vmZ r_1.toNatClampNeg (vp_nar .boolean x3))) ∧ ((vmZ r_1.toNatClampNeg) = x3 → post (0 : Int32) vmZ)))))
abbrev rm_X5_close : Room := { frames := 3, cells := 0, slots := 0, locals := 71 }
set_option maxHeartbeats 4000000 in
set_option maxRecDepth 100000 in
theorem k_X5_close (l : Launch) (G : va_G) (cI cJ cZ : ClassId) (aM aM1 aM2 aM3 aM4 aM6 aM8 aM9 aM10 aM11 aM12 aM13 aM15 : Nat) (sz N : Nat) (vmN : Int32) (vmR : Int32) (vmBN : Int32) (vmHN : Int32) (vmL : Int32) (vmLo : Nat → Int32) (vmHi : Nat → Int32) (vmC : Nat → Int32) (vmZ : Nat → Int32) (vmB : Nat → Int32) (vmT : Nat → Int64) (vmM : Nat → Int32) (vmK : Nat → Int32) (vmF : Nat → Int32) (vmX : Nat → Int32) (vmH : Nat → Int32) (vmRow : Nat → Int32) (x1 : Int32) (x2 : Int32) (x3 : Int32) (post : Int32 → (Nat → Int32) → Prop) (hw : w_X5_close N vmR vmLo vmHi vmZ x1 x2 x3 post) : Met l yX5_close wsX5_close rm_X5_close (kPc G (tyL cI cJ cZ) [.ref aM, .int x1, .int x2, .int x3] sz (wdM cI cJ cZ aM aM1 aM2 aM3 aM4 aM6 aM8 aM9 aM10 aM11 aM12 aM13 aM15 vmN vmR vmBN vmHN vmL vmLo vmHi vmC vmZ vmB vmT vmM vmK vmF vmX vmH vmRow)) (va_Qi (fun (r : Int32) (u : (Nat → Int32)) => post r u) (kB G (tyL cI cJ cZ) (va_A (wdM cI cJ cZ aM aM1 aM2 aM3 aM4 aM6 aM8 aM9 aM10 aM11 aM12 aM13 aM15 vmN vmR vmBN vmHN vmL vmLo vmHi vmC vmZ vmB vmT vmM vmK vmF vmX vmH vmRow) sz) (fun (u : (Nat → Int32)) => wdM cI cJ cZ aM aM1 aM2 aM3 aM4 aM6 aM8 aM9 aM10 aM11 aM12 aM13 aM15 vmN vmR vmBN vmHN vmL vmLo vmHi vmC u vmB vmT vmM vmK vmF vmX vmH vmRow)) (va_A (wdM cI cJ cZ aM aM1 aM2 aM3 aM4 aM6 aM8 aM9 aM10 aM11 aM12 aM13 aM15 vmN vmR vmBN vmHN vmL vmLo vmHi vmC vmZ vmB vmT vmM vmK vmF vmX vmH vmRow) sz)) 0 0 (va_A (wdM cI cJ cZ aM aM1 aM2 aM3 aM4 aM6 aM8 aM9 aM10 aM11 aM12 aM13 aM15 vmN vmR vmBN vmHN vmL vmLo vmHi vmC vmZ vmB vmT vmM vmK vmF vmX vmH vmRow) sz) := by
  refine km_z (cc := cX5_close) (maxL := 5) (by decide) rfl (Nat.le_of_ble_eq_true rfl) ?_
  intro p e s m below meth c A Q ls hx hb hml hts hown hnm hK hN hA hP hD hS hl hret
  replace hown : s.vm.findClass RX5 = some m.cls := hown
  replace hl : lv_has ls 5 [(0, .ref aM), (1, .int x1), (2, .int x2), (3, .int x3)] := hl
  unfold w_X5_close at hw
  refine lv_aload_n hx hb dX5_close_0 rfl (lv_at hl 0 rfl) ?_
  refine lv_iload_n hx hb dX5_close_1 rfl (lv_at hl 1 rfl) ?_
  refine lv_iload_n hx hb dX5_close_2 rfl (lv_at hl 2 rfl) ?_
  refine kc_Vi (As := [.int x1, .int x2]) (rest := []) (wc := wdM cI cJ cZ aM aM1 aM2 aM3 aM4 aM6 aM8 aM9 aM10 aM11 aM12 aM13 aM15 vmN vmR vmBN vmHN vmL vmLo vmHi vmC vmZ vmB vmT vmM vmK vmF vmX vmH vmRow) (wr := []) ⟨hx, hb, hml, hown, hts⟩ (cwV 2 hts gX5_close_X5_find rfl rfl rfl (by decide +kernel) ⟨Nat.le_of_ble_eq_true rfl, Nat.le_of_ble_eq_true rfl⟩) hK hN hA hP hD hS [0, 1, 2, 3, 4, 5, 6, 7, 8, 9, 10, 11, 12] [] rfl rfl (by decide) (by decide) (by decide) 0 rfl rfl (k_X5_find l G cI cJ cZ aM aM1 aM2 aM3 aM4 aM6 aM8 aM9 aM10 aM11 aM12 aM13 aM15 _ N vmN vmR vmBN vmHN vmL vmLo vmHi vmC vmZ vmB vmT vmM vmK vmF vmX vmH vmRow x1 x2 _ hw) rfl hl.1 rfl (Nat.le_of_ble_eq_true rfl) dX5_close_3 ⟨Nat.le_of_ble_eq_true rfl, Nat.le_of_ble_eq_true rfl⟩ (fun r_1 u_ H locs hw hP hD hS => ?_)
  replace hP : va_P G vwCl (wdM cI cJ cZ aM aM1 aM2 aM3 aM4 aM6 aM8 aM9 aM10 aM11 aM12 aM13 aM15 vmN vmR vmBN vmHN vmL vmLo vmHi vmC vmZ vmB vmT vmM vmK vmF vmX vmH vmRow) H := hP.sub [0, 1, 2, 3, 4, 5, 6, 7, 8, 9, 10, 11, 12] rfl
  replace hD : va_D A (wdM cI cJ cZ aM aM1 aM2 aM3 aM4 aM6 aM8 aM9 aM10 aM11 aM12 aM13 aM15 vmN vmR vmBN vmHN vmL vmLo vmHi vmC vmZ vmB vmT vmM vmK vmF vmX vmH vmRow) := hD.sub [0, 1, 2, 3, 4, 5, 6, 7, 8, 9, 10, 11, 12] (by decide) rfl
  refine lv_istore (lv' := [(4, .int r_1), (0, .ref aM), (1, .int x1), (2, .int x2), (3, .int x3)]) hx hb dX5_close_6 hl (by decide) rfl (fun ls hl => ?_)
  refine lv_iload hx hb dX5_close_8 (lv_at hl 0 rfl) ?_
  refine lv_if_lt (tgt := 24) hx hb dX5_close_10 (by decide) (fun c_2 => ?_) (fun c_2 => ?_)
  · replace hw := hw.1 c_2
    refine lv_iconst (v := (0 : Int32)) hx hb dX5_close_24 (by decide) ?_
    exact hret 25 (0 : Int32) (vmZ) _ _ _ dX5_close_25 rfl hw hP hD hS
  · replace hw := hw.2 c_2
    refine lv_aload_n hx hb dX5_close_13 rfl (lv_at hl 1 rfl) ?_
    refine va_get (D := G) (ci := 5) (v := .ref aM4) (C := RX5) (T := TX5) (N := 17) hx hb hts (fun _ h => List.mem_cons_of_mem _ (List.mem_append_right _ h)) hown hK hP 0 rfl rfl 4 (by decide) (hts _ (List.mem_of_getElem? (i := 1) rfl)) (fun _ h9 => h9) rfl dX5_close_14 ?_
    refine lv_iload hx hb dX5_close_17 (lv_at hl 0 rfl) ?_
    have h_3 := hw.1
    replace hw := hw.2
    refine va_zald hx hb hK hP 4 2 rfl rfl h_3 dX5_close_19 ?_
    refine lv_iload_n hx hb dX5_close_20 rfl (lv_at hl 4 rfl) ?_
    refine lv_icmp_ne (tgt := 26) hx hb dX5_close_21 (by decide) (fun c_4 => ?_) (fun c_4 => ?_)
    · replace hw := hw.1 c_4
      refine lv_aload_n hx hb dX5_close_26 rfl (lv_at hl 1 rfl) ?_
      refine va_get (D := G) (ci := 5) (v := .ref aM4) (C := RX5) (T := TX5) (N := 17) hx hb hts (fun _ h => List.mem_cons_of_mem _ (List.mem_append_right _ h)) hown hK hP 0 rfl rfl 4 (by decide) (hts _ (List.mem_of_getElem? (i := 1) rfl)) (fun _ h9 => h9) rfl dX5_close_27 ?_
      refine lv_iload hx hb dX5_close_30 (lv_at hl 0 rfl) ?_
      refine lv_iload_n hx hb dX5_close_32 rfl (lv_at hl 4 rfl) ?_
      refine va_zast hx hb hK hP hD hS 4 2 rfl rfl h_3 dX5_close_33 (fun H locs hP hD hS => ?_)
      replace hP : va_P G vwCl (wdM cI cJ cZ aM aM1 aM2 aM3 aM4 aM6 aM8 aM9 aM10 aM11 aM12 aM13 aM15 vmN vmR vmBN vmHN vmL vmLo vmHi vmC (upd vmZ r_1.toNatClampNeg (vp_nar .boolean x3)) vmB vmT vmM vmK vmF vmX vmH vmRow) H := hP
      replace hD : va_D A (wdM cI cJ cZ aM aM1 aM2 aM3 aM4 aM6 aM8 aM9 aM10 aM11 aM12 aM13 aM15 vmN vmR vmBN vmHN vmL vmLo vmHi vmC (upd vmZ r_1.toNatClampNeg (vp_nar .boolean x3)) vmB vmT vmM vmK vmF vmX vmH vmRow) := hD
      refine lv_iconst (v := (1 : Int32)) hx hb dX5_close_34 (by decide) ?_
      exact hret 35 (1 : Int32) ((upd vmZ r_1.toNatClampNeg (vp_nar .boolean x3))) _ _ _ dX5_close_35 rfl hw hP hD hS
    · replace hw := hw.2 c_4
      refine lv_iconst (v := (0 : Int32)) hx hb dX5_close_24 (by decide) ?_
      exact hret 25 (0 : Int32) (vmZ) _ _ _ dX5_close_25 rfl hw hP hD hS
def w_X5_cost (N : Nat) (vmR : Int32) (vmLo : Nat → Int32) (vmHi : Nat → Int32) (vmC : Nat → Int32) (vmZ : Nat → Int32) (x1 : Int32) (x2 : Int32) (post : Int32 → Prop) : Prop :=
  w_X5_find N vmR vmLo vmHi x1 x2 (fun r_1 => (((0 : Int32) ≤ r_1 → vp_in r_1 2000 ∧ (((vmZ r_1.toNatClampNeg) = (0 : Int32) → post (vmC r_1.toNatClampNeg)) ∧ (¬ ((vmZ r_1.toNatClampNeg) = (0 : Int32)) → post (-(vmC r_1.toNatClampNeg))))) ∧ (¬ ((0 : Int32) ≤ r_1) → post (0 : Int32))))
abbrev rm_X5_cost : Room := { frames := 3, cells := 0, slots := 0, locals := 71 }
set_option maxHeartbeats 4000000 in
set_option maxRecDepth 100000 in
theorem k_X5_cost (l : Launch) (G : va_G) (cI cJ cZ : ClassId) (aM aM1 aM2 aM3 aM4 aM6 aM8 aM9 aM10 aM11 aM12 aM13 aM15 : Nat) (sz N : Nat) (vmN : Int32) (vmR : Int32) (vmBN : Int32) (vmHN : Int32) (vmL : Int32) (vmLo : Nat → Int32) (vmHi : Nat → Int32) (vmC : Nat → Int32) (vmZ : Nat → Int32) (vmB : Nat → Int32) (vmT : Nat → Int64) (vmM : Nat → Int32) (vmK : Nat → Int32) (vmF : Nat → Int32) (vmX : Nat → Int32) (vmH : Nat → Int32) (vmRow : Nat → Int32) (x1 : Int32) (x2 : Int32) (post : Int32 → Prop) (hw : w_X5_cost N vmR vmLo vmHi vmC vmZ x1 x2 post) : Met l yX5_cost wsX5_cost rm_X5_cost (kPc G (tyL cI cJ cZ) [.ref aM, .int x1, .int x2] sz (wdM cI cJ cZ aM aM1 aM2 aM3 aM4 aM6 aM8 aM9 aM10 aM11 aM12 aM13 aM15 vmN vmR vmBN vmHN vmL vmLo vmHi vmC vmZ vmB vmT vmM vmK vmF vmX vmH vmRow)) (va_Qi (fun (r : Int32) (u : Unit) => post r ) (kB G (tyL cI cJ cZ) (va_A (wdM cI cJ cZ aM aM1 aM2 aM3 aM4 aM6 aM8 aM9 aM10 aM11 aM12 aM13 aM15 vmN vmR vmBN vmHN vmL vmLo vmHi vmC vmZ vmB vmT vmM vmK vmF vmX vmH vmRow) sz) (fun (u : Unit) => wdM cI cJ cZ aM aM1 aM2 aM3 aM4 aM6 aM8 aM9 aM10 aM11 aM12 aM13 aM15 vmN vmR vmBN vmHN vmL vmLo vmHi vmC vmZ vmB vmT vmM vmK vmF vmX vmH vmRow)) (va_A (wdM cI cJ cZ aM aM1 aM2 aM3 aM4 aM6 aM8 aM9 aM10 aM11 aM12 aM13 aM15 vmN vmR vmBN vmHN vmL vmLo vmHi vmC vmZ vmB vmT vmM vmK vmF vmX vmH vmRow) sz)) 0 0 (va_A (wdM cI cJ cZ aM aM1 aM2 aM3 aM4 aM6 aM8 aM9 aM10 aM11 aM12 aM13 aM15 vmN vmR vmBN vmHN vmL vmLo vmHi vmC vmZ vmB vmT vmM vmK vmF vmX vmH vmRow) sz) := by
  refine km_i (cc := cX5_cost) (maxL := 4) (by decide) rfl (Nat.le_of_ble_eq_true rfl) ?_
  intro p e s m below meth c A Q ls hx hb hml hts hown hnm hK hN hA hP hD hS hl hret
  replace hown : s.vm.findClass RX5 = some m.cls := hown
  replace hl : lv_has ls 4 [(0, .ref aM), (1, .int x1), (2, .int x2)] := hl
  unfold w_X5_cost at hw
  refine lv_aload_n hx hb dX5_cost_0 rfl (lv_at hl 0 rfl) ?_
  refine lv_iload_n hx hb dX5_cost_1 rfl (lv_at hl 1 rfl) ?_
  refine lv_iload_n hx hb dX5_cost_2 rfl (lv_at hl 2 rfl) ?_
  refine kc_Vi (As := [.int x1, .int x2]) (rest := []) (wc := wdM cI cJ cZ aM aM1 aM2 aM3 aM4 aM6 aM8 aM9 aM10 aM11 aM12 aM13 aM15 vmN vmR vmBN vmHN vmL vmLo vmHi vmC vmZ vmB vmT vmM vmK vmF vmX vmH vmRow) (wr := []) ⟨hx, hb, hml, hown, hts⟩ (cwV 2 hts gX5_cost_X5_find rfl rfl rfl (by decide +kernel) ⟨Nat.le_of_ble_eq_true rfl, Nat.le_of_ble_eq_true rfl⟩) hK hN hA hP hD hS [0, 1, 2, 3, 4, 5, 6, 7, 8, 9, 10, 11, 12] [] rfl rfl (by decide) (by decide) (by decide) 0 rfl rfl (k_X5_find l G cI cJ cZ aM aM1 aM2 aM3 aM4 aM6 aM8 aM9 aM10 aM11 aM12 aM13 aM15 _ N vmN vmR vmBN vmHN vmL vmLo vmHi vmC vmZ vmB vmT vmM vmK vmF vmX vmH vmRow x1 x2 _ hw) rfl hl.1 rfl (Nat.le_of_ble_eq_true rfl) dX5_cost_3 ⟨Nat.le_of_ble_eq_true rfl, Nat.le_of_ble_eq_true rfl⟩ (fun r_1 u_ H locs hw hP hD hS => ?_)
  replace hP : va_P G vwCl (wdM cI cJ cZ aM aM1 aM2 aM3 aM4 aM6 aM8 aM9 aM10 aM11 aM12 aM13 aM15 vmN vmR vmBN vmHN vmL vmLo vmHi vmC vmZ vmB vmT vmM vmK vmF vmX vmH vmRow) H := hP.sub [0, 1, 2, 3, 4, 5, 6, 7, 8, 9, 10, 11, 12] rfl
  replace hD : va_D A (wdM cI cJ cZ aM aM1 aM2 aM3 aM4 aM6 aM8 aM9 aM10 aM11 aM12 aM13 aM15 vmN vmR vmBN vmHN vmL vmLo vmHi vmC vmZ vmB vmT vmM vmK vmF vmX vmH vmRow) := hD.sub [0, 1, 2, 3, 4, 5, 6, 7, 8, 9, 10, 11, 12] (by decide) rfl
  refine lv_istore_n (lv' := [(3, .int r_1), (0, .ref aM), (1, .int x1), (2, .int x2)]) hx hb dX5_cost_6 rfl hl (by decide) rfl (fun ls hl => ?_)
  refine lv_iload_n hx hb dX5_cost_7 rfl (lv_at hl 0 rfl) ?_
  refine lv_if_ge (tgt := 15) hx hb dX5_cost_8 (by decide) (fun c_2 => ?_) (fun c_2 => ?_)
  · replace hw := hw.1 c_2
    refine lv_aload_n hx hb dX5_cost_15 rfl (lv_at hl 1 rfl) ?_
    refine va_get (D := G) (ci := 5) (v := .ref aM4) (C := RX5) (T := TX5) (N := 17) hx hb hts (fun _ h => List.mem_cons_of_mem _ (List.mem_append_right _ h)) hown hK hP 0 rfl rfl 4 (by decide) (hts _ (List.mem_of_getElem? (i := 1) rfl)) (fun _ h9 => h9) rfl dX5_cost_16 ?_
    refine lv_iload_n hx hb dX5_cost_19 rfl (lv_at hl 0 rfl) ?_
    have h_3 := hw.1
    replace hw := hw.2
    refine va_zald hx hb hK hP 4 2 rfl rfl h_3 dX5_cost_20 ?_
    refine lv_if_eq (tgt := 34) hx hb dX5_cost_21 (by decide) (fun c_4 => ?_) (fun c_4 => ?_)
    · replace hw := hw.1 c_4
      refine lv_aload_n hx hb dX5_cost_34 rfl (lv_at hl 1 rfl) ?_
      refine va_get (D := G) (ci := 5) (v := .ref aM3) (C := RX5) (T := TX5) (N := 17) hx hb hts (fun _ h => List.mem_cons_of_mem _ (List.mem_append_right _ h)) hown hK hP 0 rfl rfl 3 (by decide) (hts _ (List.mem_of_getElem? (i := 2) rfl)) (fun _ h9 => h9) rfl dX5_cost_35 ?_
      refine lv_iload_n hx hb dX5_cost_38 rfl (lv_at hl 0 rfl) ?_
      refine va_iald hx hb hK hP 3 0 rfl rfl h_3 dX5_cost_39 ?_
      exact hret 40 (vmC r_1.toNatClampNeg) () _ _ _ dX5_cost_40 hw hP hD hS
    · replace hw := hw.2 c_4
      refine lv_aload_n hx hb dX5_cost_24 rfl (lv_at hl 1 rfl) ?_
      refine va_get (D := G) (ci := 5) (v := .ref aM3) (C := RX5) (T := TX5) (N := 17) hx hb hts (fun _ h => List.mem_cons_of_mem _ (List.mem_append_right _ h)) hown hK hP 0 rfl rfl 3 (by decide) (hts _ (List.mem_of_getElem? (i := 2) rfl)) (fun _ h9 => h9) rfl dX5_cost_25 ?_
      refine lv_iload_n hx hb dX5_cost_28 rfl (lv_at hl 0 rfl) ?_
      refine va_iald hx hb hK hP 3 0 rfl rfl h_3 dX5_cost_29 ?_
      refine lv_ineg hx hb dX5_cost_30 ?_
      refine lv_goto (tgt := 40) hx hb dX5_cost_31 (by decide) ?_
      exact hret 40 (-(vmC r_1.toNatClampNeg)) () _ _ _ dX5_cost_40 hw hP hD hS
  · replace hw := hw.2 c_2
    refine lv_iconst (v := (0 : Int32)) hx hb dX5_cost_11 (by decide) ?_
    refine lv_goto (tgt := 40) hx hb dX5_cost_12 (by decide) ?_
    exact hret 40 (0 : Int32) () _ _ _ dX5_cost_40 hw hP hD hS
def w_X5_barAt_b3_B (N : Nat) (vmBN : Int32) (vmB : Nat → Int32) (x1 : Int32) (x2 : Int32) (x3 : Int32) (post : Int32 → Prop) (k3 : Int32 → Prop) (x4_b3 : Int32) : Prop :=
  ((vmBN ≤ x4_b3 → post (-1 : Int32)) ∧ (¬ (vmBN ≤ x4_b3) → vp_in ((3 : Int32) * x4_b3) 600 ∧ ((¬ (vmB ((3 : Int32) * x4_b3).toNatClampNeg) = x1 → ∀ x4_4 : Int32, x4_4 = x4_b3 + (1 : Int32) → k3 x4_4) ∧ ((vmB ((3 : Int32) * x4_b3).toNatClampNeg) = x1 → vp_in (((3 : Int32) * x4_b3) + (1 : Int32)) 600 ∧ ((¬ (vmB (((3 : Int32) * x4_b3) + (1 : Int32)).toNatClampNeg) = x2 → ∀ x4_8 : Int32, x4_8 = x4_b3 + (1 : Int32) → k3 x4_8) ∧ ((vmB (((3 : Int32) * x4_b3) + (1 : Int32)).toNatClampNeg) = x2 → vp_in (((3 : Int32) * x4_b3) + (2 : Int32)) 600 ∧ ((¬ (vmB (((3 : Int32) * x4_b3) + (2 : Int32)).toNatClampNeg) = x3 → ∀ x4_12 : Int32, x4_12 = x4_b3 + (1 : Int32) → k3 x4_12) ∧ ((vmB (((3 : Int32) * x4_b3) + (2 : Int32)).toNatClampNeg) = x3 → post x4_b3))))))))
def w_X5_barAt_b3 (N : Nat) (vmBN : Int32) (vmB : Nat → Int32) (x1 : Int32) (x2 : Int32) (x3 : Int32) (post : Int32 → Prop) : Nat → Int32 → Prop
  | 0, _ => False
  | n + 1, x4_b3 => w_X5_barAt_b3_B N vmBN vmB x1 x2 x3 post (w_X5_barAt_b3 N vmBN vmB x1 x2 x3 post n) x4_b3
def w_X5_barAt (N : Nat) (vmBN : Int32) (vmB : Nat → Int32) (x1 : Int32) (x2 : Int32) (x3 : Int32) (post : Int32 → Prop) : Prop :=
  w_X5_barAt_b3 N vmBN vmB x1 x2 x3 post N (0 : Int32)
abbrev rm_X5_barAt : Room := { frames := 0, cells := 0, slots := 0, locals := 0 }
set_option maxHeartbeats 4000000 in
set_option maxRecDepth 100000 in
theorem k_X5_barAt (l : Launch) (G : va_G) (cI cJ cZ : ClassId) (aM aM1 aM2 aM3 aM4 aM6 aM8 aM9 aM10 aM11 aM12 aM13 aM15 : Nat) (sz N : Nat) (vmN : Int32) (vmR : Int32) (vmBN : Int32) (vmHN : Int32) (vmL : Int32) (vmLo : Nat → Int32) (vmHi : Nat → Int32) (vmC : Nat → Int32) (vmZ : Nat → Int32) (vmB : Nat → Int32) (vmT : Nat → Int64) (vmM : Nat → Int32) (vmK : Nat → Int32) (vmF : Nat → Int32) (vmX : Nat → Int32) (vmH : Nat → Int32) (vmRow : Nat → Int32) (x1 : Int32) (x2 : Int32) (x3 : Int32) (post : Int32 → Prop) (hw : w_X5_barAt N vmBN vmB x1 x2 x3 post) : Met l yX5_barAt wsX5_barAt rm_X5_barAt (kPc G (tyL cI cJ cZ) [.ref aM, .int x1, .int x2, .int x3] sz (wdM cI cJ cZ aM aM1 aM2 aM3 aM4 aM6 aM8 aM9 aM10 aM11 aM12 aM13 aM15 vmN vmR vmBN vmHN vmL vmLo vmHi vmC vmZ vmB vmT vmM vmK vmF vmX vmH vmRow)) (va_Qi (fun (r : Int32) (u : Unit) => post r ) (kB G (tyL cI cJ cZ) (va_A (wdM cI cJ cZ aM aM1 aM2 aM3 aM4 aM6 aM8 aM9 aM10 aM11 aM12 aM13 aM15 vmN vmR vmBN vmHN vmL vmLo vmHi vmC vmZ vmB vmT vmM vmK vmF vmX vmH vmRow) sz) (fun (u : Unit) => wdM cI cJ cZ aM aM1 aM2 aM3 aM4 aM6 aM8 aM9 aM10 aM11 aM12 aM13 aM15 vmN vmR vmBN vmHN vmL vmLo vmHi vmC vmZ vmB vmT vmM vmK vmF vmX vmH vmRow)) (va_A (wdM cI cJ cZ aM aM1 aM2 aM3 aM4 aM6 aM8 aM9 aM10 aM11 aM12 aM13 aM15 vmN vmR vmBN vmHN vmL vmLo vmHi vmC vmZ vmB vmT vmM vmK vmF vmX vmH vmRow) sz)) 0 0 (va_A (wdM cI cJ cZ aM aM1 aM2 aM3 aM4 aM6 aM8 aM9 aM10 aM11 aM12 aM13 aM15 vmN vmR vmBN vmHN vmL vmLo vmHi vmC vmZ vmB vmT vmM vmK vmF vmX vmH vmRow) sz) := by
  refine km_i (cc := cX5_barAt) (maxL := 5) (by decide) rfl (Nat.le_of_ble_eq_true rfl) ?_
  intro p e s m below meth c A Q ls hx hb hml hts hown hnm hK hN hA hP hD hS hl hret
  replace hown : s.vm.findClass RX5 = some m.cls := hown
  replace hl : lv_has ls 5 [(0, .ref aM), (1, .int x1), (2, .int x2), (3, .int x3)] := hl
  have b3 : ∀ (n3 : Nat) (x4_b3 : Int32) (H : Heap) (locs : List Loc) (ls : Array Slot), w_X5_barAt_b3 N vmBN vmB x1 x2 x3 post n3 x4_b3 → va_P G vwCl (wdM cI cJ cZ aM aM1 aM2 aM3 aM4 aM6 aM8 aM9 aM10 aM11 aM12 aM13 aM15 vmN vmR vmBN vmHN vmL vmLo vmHi vmC vmZ vmB vmT vmM vmK vmF vmX vmH vmRow) H → va_D A (wdM cI cJ cZ aM aM1 aM2 aM3 aM4 aM6 aM8 aM9 aM10 aM11 aM12 aM13 aM15 vmN vmR vmBN vmHN vmL vmLo vmHi vmC vmZ vmB vmT vmM vmK vmF vmX vmH vmRow) → va_S A s.heap H locs → lv_has ls 5 [(0, .ref aM), (1, .int x1), (2, .int x2), (3, .int x3), (4, .int x4_b3)] → W p l e rm_X5_barAt s m ([.ref aM, .int x1, .int x2, .int x3] : List Value).toArray below meth c H locs 0 0 Q (F0 m 3 ls []) := by
    intro n3
    induction n3 with
    | zero => intro x4_b3 H locs ls hw; exact hw.elim
    | succ n3 ih3 =>
      intro x4_b3 H locs ls hw hP hD hS hl
      replace hw : w_X5_barAt_b3_B N vmBN vmB x1 x2 x3 post (w_X5_barAt_b3 N vmBN vmB x1 x2 x3 post n3) x4_b3 := hw
      unfold w_X5_barAt_b3_B at hw
      refine lv_iload hx hb dX5_barAt_3 (lv_at hl 4 rfl) ?_
      refine lv_aload_n hx hb dX5_barAt_5 rfl (lv_at hl 0 rfl) ?_
      refine va_get (D := G) (ci := 5) (v := .int vmBN) (C := RX5) (T := TX5) (N := 17) hx hb hts (fun _ h => List.mem_cons_of_mem _ (List.mem_append_right _ h)) hown hK hP 0 rfl rfl 7 (by decide) (hts _ (List.mem_of_getElem? (i := 1) rfl)) (fun _ h9 => h9) rfl dX5_barAt_6 ?_
      refine lv_icmp_ge (tgt := 64) hx hb dX5_barAt_9 (by decide) (fun c_1 => ?_) (fun c_1 => ?_)
      · replace hw := hw.1 c_1
        refine lv_iconst (v := (-1 : Int32)) hx hb dX5_barAt_64 (by decide) ?_
        exact hret 65 (-1 : Int32) () _ _ _ dX5_barAt_65 hw hP hD hS
      · replace hw := hw.2 c_1
        refine lv_aload_n hx hb dX5_barAt_12 rfl (lv_at hl 0 rfl) ?_
        refine va_get (D := G) (ci := 5) (v := .ref aM6) (C := RX5) (T := TX5) (N := 17) hx hb hts (fun _ h => List.mem_cons_of_mem _ (List.mem_append_right _ h)) hown hK hP 0 rfl rfl 6 (by decide) (hts _ (List.mem_of_getElem? (i := 2) rfl)) (fun _ h9 => h9) rfl dX5_barAt_13 ?_
        refine lv_iconst (v := (3 : Int32)) hx hb dX5_barAt_16 (by decide) ?_
        refine lv_iload hx hb dX5_barAt_17 (lv_at hl 4 rfl) ?_
        refine lv_imul hx hb dX5_barAt_19 ?_
        have h_2 := hw.1
        replace hw := hw.2
        refine va_iald hx hb hK hP 5 0 rfl rfl h_2 dX5_barAt_20 ?_
        refine lv_iload_n hx hb dX5_barAt_21 rfl (lv_at hl 1 rfl) ?_
        refine lv_icmp_ne (tgt := 58) hx hb dX5_barAt_22 (by decide) (fun c_3 => ?_) (fun c_3 => ?_)
        · replace hw := hw.1 c_3
          obtain ⟨x4_4, e_5⟩ : ∃ y : Int32, y = x4_b3 + (1 : Int32) := ⟨_, rfl⟩
          replace hw := hw x4_4 e_5
          refine lv_iinc (v := x4_4) (lv' := [(4, .int x4_4), (0, .ref aM), (1, .int x1), (2, .int x2), (3, .int x3)]) hx hb dX5_barAt_58 hl (k := 4) rfl (by rw [e_5]; rfl) (by decide) rfl (fun ls hl => ?_)
          refine lv_goto (tgt := 3) hx hb dX5_barAt_61 (by decide) ?_
          replace hl : lv_has ls 5 [(0, .ref aM), (1, .int x1), (2, .int x2), (3, .int x3), (4, .int x4_4)] := lv_sub hl [1, 2, 3, 4, 0] rfl
          exact ih3 x4_4 _ _ _ hw hP hD hS hl
        · replace hw := hw.2 c_3
          refine lv_aload_n hx hb dX5_barAt_25 rfl (lv_at hl 0 rfl) ?_
          refine va_get (D := G) (ci := 5) (v := .ref aM6) (C := RX5) (T := TX5) (N := 17) hx hb hts (fun _ h => List.mem_cons_of_mem _ (List.mem_append_right _ h)) hown hK hP 0 rfl rfl 6 (by decide) (hts _ (List.mem_of_getElem? (i := 2) rfl)) (fun _ h9 => h9) rfl dX5_barAt_26 ?_
          refine lv_iconst (v := (3 : Int32)) hx hb dX5_barAt_29 (by decide) ?_
          refine lv_iload hx hb dX5_barAt_30 (lv_at hl 4 rfl) ?_
          refine lv_imul hx hb dX5_barAt_32 ?_
          refine lv_iconst (v := (1 : Int32)) hx hb dX5_barAt_33 (by decide) ?_
          refine lv_iadd hx hb dX5_barAt_34 ?_
          have h_6 := hw.1
          replace hw := hw.2
          refine va_iald hx hb hK hP 5 0 rfl rfl h_6 dX5_barAt_35 ?_
          refine lv_iload_n hx hb dX5_barAt_36 rfl (lv_at hl 2 rfl) ?_
          refine lv_icmp_ne (tgt := 58) hx hb dX5_barAt_37 (by decide) (fun c_7 => ?_) (fun c_7 => ?_)
          · replace hw := hw.1 c_7
            obtain ⟨x4_8, e_9⟩ : ∃ y : Int32, y = x4_b3 + (1 : Int32) := ⟨_, rfl⟩
            replace hw := hw x4_8 e_9
            refine lv_iinc (v := x4_8) (lv' := [(4, .int x4_8), (0, .ref aM), (1, .int x1), (2, .int x2), (3, .int x3)]) hx hb dX5_barAt_58 hl (k := 4) rfl (by rw [e_9]; rfl) (by decide) rfl (fun ls hl => ?_)
            refine lv_goto (tgt := 3) hx hb dX5_barAt_61 (by decide) ?_
            replace hl : lv_has ls 5 [(0, .ref aM), (1, .int x1), (2, .int x2), (3, .int x3), (4, .int x4_8)] := lv_sub hl [1, 2, 3, 4, 0] rfl
            exact ih3 x4_8 _ _ _ hw hP hD hS hl
          · replace hw := hw.2 c_7
            refine lv_aload_n hx hb dX5_barAt_40 rfl (lv_at hl 0 rfl) ?_
            refine va_get (D := G) (ci := 5) (v := .ref aM6) (C := RX5) (T := TX5) (N := 17) hx hb hts (fun _ h => List.mem_cons_of_mem _ (List.mem_append_right _ h)) hown hK hP 0 rfl rfl 6 (by decide) (hts _ (List.mem_of_getElem? (i := 2) rfl)) (fun _ h9 => h9) rfl dX5_barAt_41 ?_
            refine lv_iconst (v := (3 : Int32)) hx hb dX5_barAt_44 (by decide) ?_
            refine lv_iload hx hb dX5_barAt_45 (lv_at hl 4 rfl) ?_
            refine lv_imul hx hb dX5_barAt_47 ?_
            refine lv_iconst (v := (2 : Int32)) hx hb dX5_barAt_48 (by decide) ?_
            refine lv_iadd hx hb dX5_barAt_49 ?_
            have h_10 := hw.1
            replace hw := hw.2
            refine va_iald hx hb hK hP 5 0 rfl rfl h_10 dX5_barAt_50 ?_
            refine lv_iload_n hx hb dX5_barAt_51 rfl (lv_at hl 3 rfl) ?_
            refine lv_icmp_ne (tgt := 58) hx hb dX5_barAt_52 (by decide) (fun c_11 => ?_) (fun c_11 => ?_)
            · replace hw := hw.1 c_11
              obtain ⟨x4_12, e_13⟩ : ∃ y : Int32, y = x4_b3 + (1 : Int32) := ⟨_, rfl⟩
              replace hw := hw x4_12 e_13
              refine lv_iinc (v := x4_12) (lv' := [(4, .int x4_12), (0, .ref aM), (1, .int x1), (2, .int x2), (3, .int x3)]) hx hb dX5_barAt_58 hl (k := 4) rfl (by rw [e_13]; rfl) (by decide) rfl (fun ls hl => ?_)
              refine lv_goto (tgt := 3) hx hb dX5_barAt_61 (by decide) ?_
              replace hl : lv_has ls 5 [(0, .ref aM), (1, .int x1), (2, .int x2), (3, .int x3), (4, .int x4_12)] := lv_sub hl [1, 2, 3, 4, 0] rfl
              exact ih3 x4_12 _ _ _ hw hP hD hS hl
            · replace hw := hw.2 c_11
              refine lv_iload hx hb dX5_barAt_55 (lv_at hl 4 rfl) ?_
              exact hret 57 x4_b3 () _ _ _ dX5_barAt_57 hw hP hD hS
  unfold w_X5_barAt at hw
  refine lv_iconst (v := (0 : Int32)) hx hb dX5_barAt_0 (by decide) ?_
  refine lv_istore (lv' := [(4, .int (0 : Int32)), (0, .ref aM), (1, .int x1), (2, .int x2), (3, .int x3)]) hx hb dX5_barAt_1 hl (by decide) rfl (fun ls hl => ?_)
  replace hl : lv_has ls 5 [(0, .ref aM), (1, .int x1), (2, .int x2), (3, .int x3), (4, .int (0 : Int32))] := lv_sub hl [1, 2, 3, 4, 0] rfl
  exact b3 N (0 : Int32) _ _ _ hw hP hD hS hl
def w_X5_start (N : Nat) (vmLo : Nat → Int32) (vmHi : Nat → Int32) (x1 : Int32) (post : Int32 → Prop) : Prop :=
  ((¬ (x1 - x1 / (2 : Int32) * (2 : Int32)) = (0 : Int32) → vp_in (x1 / (2 : Int32)) 2000 ∧ post (vmHi (x1 / (2 : Int32)).toNatClampNeg)) ∧ ((x1 - x1 / (2 : Int32) * (2 : Int32)) = (0 : Int32) → vp_in (x1 / (2 : Int32)) 2000 ∧ post (vmLo (x1 / (2 : Int32)).toNatClampNeg)))
abbrev rm_X5_start : Room := { frames := 0, cells := 0, slots := 0, locals := 0 }
set_option maxHeartbeats 4000000 in
set_option maxRecDepth 100000 in
theorem k_X5_start (l : Launch) (G : va_G) (cI cJ cZ : ClassId) (aM aM1 aM2 aM3 aM4 aM6 aM8 aM9 aM10 aM11 aM12 aM13 aM15 : Nat) (sz N : Nat) (vmN : Int32) (vmR : Int32) (vmBN : Int32) (vmHN : Int32) (vmL : Int32) (vmLo : Nat → Int32) (vmHi : Nat → Int32) (vmC : Nat → Int32) (vmZ : Nat → Int32) (vmB : Nat → Int32) (vmT : Nat → Int64) (vmM : Nat → Int32) (vmK : Nat → Int32) (vmF : Nat → Int32) (vmX : Nat → Int32) (vmH : Nat → Int32) (vmRow : Nat → Int32) (x1 : Int32) (post : Int32 → Prop) (hw : w_X5_start N vmLo vmHi x1 post) : Met l yX5_start wsX5_start rm_X5_start (kPc G (tyL cI cJ cZ) [.ref aM, .int x1] sz (wdM cI cJ cZ aM aM1 aM2 aM3 aM4 aM6 aM8 aM9 aM10 aM11 aM12 aM13 aM15 vmN vmR vmBN vmHN vmL vmLo vmHi vmC vmZ vmB vmT vmM vmK vmF vmX vmH vmRow)) (va_Qi (fun (r : Int32) (u : Unit) => post r ) (kB G (tyL cI cJ cZ) (va_A (wdM cI cJ cZ aM aM1 aM2 aM3 aM4 aM6 aM8 aM9 aM10 aM11 aM12 aM13 aM15 vmN vmR vmBN vmHN vmL vmLo vmHi vmC vmZ vmB vmT vmM vmK vmF vmX vmH vmRow) sz) (fun (u : Unit) => wdM cI cJ cZ aM aM1 aM2 aM3 aM4 aM6 aM8 aM9 aM10 aM11 aM12 aM13 aM15 vmN vmR vmBN vmHN vmL vmLo vmHi vmC vmZ vmB vmT vmM vmK vmF vmX vmH vmRow)) (va_A (wdM cI cJ cZ aM aM1 aM2 aM3 aM4 aM6 aM8 aM9 aM10 aM11 aM12 aM13 aM15 vmN vmR vmBN vmHN vmL vmLo vmHi vmC vmZ vmB vmT vmM vmK vmF vmX vmH vmRow) sz)) 0 0 (va_A (wdM cI cJ cZ aM aM1 aM2 aM3 aM4 aM6 aM8 aM9 aM10 aM11 aM12 aM13 aM15 vmN vmR vmBN vmHN vmL vmLo vmHi vmC vmZ vmB vmT vmM vmK vmF vmX vmH vmRow) sz) := by
  refine km_i (cc := cX5_start) (maxL := 2) (by decide) rfl (Nat.le_of_ble_eq_true rfl) ?_
  intro p e s m below meth c A Q ls hx hb hml hts hown hnm hK hN hA hP hD hS hl hret
  replace hown : s.vm.findClass RX5 = some m.cls := hown
  replace hl : lv_has ls 2 [(0, .ref aM), (1, .int x1)] := hl
  unfold w_X5_start at hw
  refine lv_iload_n hx hb dX5_start_0 rfl (lv_at hl 1 rfl) ?_
  refine lv_iconst (v := (2 : Int32)) hx hb dX5_start_1 (by decide) ?_
  refine lv_irem hx hb dX5_start_2 (by decide) ?_
  refine lv_if_ne (tgt := 17) hx hb dX5_start_3 (by decide) (fun c_1 => ?_) (fun c_1 => ?_)
  · replace hw := hw.1 c_1
    refine lv_aload_n hx hb dX5_start_17 rfl (lv_at hl 0 rfl) ?_
    refine va_get (D := G) (ci := 5) (v := .ref aM2) (C := RX5) (T := TX5) (N := 17) hx hb hts (fun _ h => List.mem_cons_of_mem _ (List.mem_append_right _ h)) hown hK hP 0 rfl rfl 2 (by decide) (hts _ (List.mem_of_getElem? (i := 2) rfl)) (fun _ h9 => h9) rfl dX5_start_18 ?_
    refine lv_iload_n hx hb dX5_start_21 rfl (lv_at hl 1 rfl) ?_
    refine lv_iconst (v := (2 : Int32)) hx hb dX5_start_22 (by decide) ?_
    refine lv_idiv hx hb dX5_start_23 (by decide) ?_
    have h_2 := hw.1
    replace hw := hw.2
    refine va_iald hx hb hK hP 2 0 rfl rfl h_2 dX5_start_24 ?_
    exact hret 25 (vmHi (x1 / (2 : Int32)).toNatClampNeg) () _ _ _ dX5_start_25 hw hP hD hS
  · replace hw := hw.2 c_1
    refine lv_aload_n hx hb dX5_start_6 rfl (lv_at hl 0 rfl) ?_
    refine va_get (D := G) (ci := 5) (v := .ref aM1) (C := RX5) (T := TX5) (N := 17) hx hb hts (fun _ h => List.mem_cons_of_mem _ (List.mem_append_right _ h)) hown hK hP 0 rfl rfl 1 (by decide) (hts _ (List.mem_of_getElem? (i := 1) rfl)) (fun _ h9 => h9) rfl dX5_start_7 ?_
    refine lv_iload_n hx hb dX5_start_10 rfl (lv_at hl 1 rfl) ?_
    refine lv_iconst (v := (2 : Int32)) hx hb dX5_start_11 (by decide) ?_
    refine lv_idiv hx hb dX5_start_12 (by decide) ?_
    have h_3 := hw.1
    replace hw := hw.2
    refine va_iald hx hb hK hP 1 0 rfl rfl h_3 dX5_start_13 ?_
    refine lv_goto (tgt := 25) hx hb dX5_start_14 (by decide) ?_
    exact hret 25 (vmLo (x1 / (2 : Int32)).toNatClampNeg) () _ _ _ dX5_start_25 hw hP hD hS
def w_X5_end (N : Nat) (vmLo : Nat → Int32) (vmHi : Nat → Int32) (x1 : Int32) (post : Int32 → Prop) : Prop :=
  w_X5_start N vmLo vmHi (x1 ^^^ (1 : Int32)) (fun r_1 => post r_1)
abbrev rm_X5_end : Room := { frames := 1, cells := 0, slots := 0, locals := 21 }
set_option maxHeartbeats 4000000 in
set_option maxRecDepth 100000 in
theorem k_X5_end (l : Launch) (G : va_G) (cI cJ cZ : ClassId) (aM aM1 aM2 aM3 aM4 aM6 aM8 aM9 aM10 aM11 aM12 aM13 aM15 : Nat) (sz N : Nat) (vmN : Int32) (vmR : Int32) (vmBN : Int32) (vmHN : Int32) (vmL : Int32) (vmLo : Nat → Int32) (vmHi : Nat → Int32) (vmC : Nat → Int32) (vmZ : Nat → Int32) (vmB : Nat → Int32) (vmT : Nat → Int64) (vmM : Nat → Int32) (vmK : Nat → Int32) (vmF : Nat → Int32) (vmX : Nat → Int32) (vmH : Nat → Int32) (vmRow : Nat → Int32) (x1 : Int32) (post : Int32 → Prop) (hw : w_X5_end N vmLo vmHi x1 post) : Met l yX5_end wsX5_end rm_X5_end (kPc G (tyL cI cJ cZ) [.ref aM, .int x1] sz (wdM cI cJ cZ aM aM1 aM2 aM3 aM4 aM6 aM8 aM9 aM10 aM11 aM12 aM13 aM15 vmN vmR vmBN vmHN vmL vmLo vmHi vmC vmZ vmB vmT vmM vmK vmF vmX vmH vmRow)) (va_Qi (fun (r : Int32) (u : Unit) => post r ) (kB G (tyL cI cJ cZ) (va_A (wdM cI cJ cZ aM aM1 aM2 aM3 aM4 aM6 aM8 aM9 aM10 aM11 aM12 aM13 aM15 vmN vmR vmBN vmHN vmL vmLo vmHi vmC vmZ vmB vmT vmM vmK vmF vmX vmH vmRow) sz) (fun (u : Unit) => wdM cI cJ cZ aM aM1 aM2 aM3 aM4 aM6 aM8 aM9 aM10 aM11 aM12 aM13 aM15 vmN vmR vmBN vmHN vmL vmLo vmHi vmC vmZ vmB vmT vmM vmK vmF vmX vmH vmRow)) (va_A (wdM cI cJ cZ aM aM1 aM2 aM3 aM4 aM6 aM8 aM9 aM10 aM11 aM12 aM13 aM15 vmN vmR vmBN vmHN vmL vmLo vmHi vmC vmZ vmB vmT vmM vmK vmF vmX vmH vmRow) sz)) 0 0 (va_A (wdM cI cJ cZ aM aM1 aM2 aM3 aM4 aM6 aM8 aM9 aM10 aM11 aM12 aM13 aM15 vmN vmR vmBN vmHN vmL vmLo vmHi vmC vmZ vmB vmT vmM vmK vmF vmX vmH vmRow) sz) := by
  refine km_i (cc := cX5_end) (maxL := 2) (by decide) rfl (Nat.le_of_ble_eq_true rfl) ?_
  intro p e s m below meth c A Q ls hx hb hml hts hown hnm hK hN hA hP hD hS hl hret
  replace hown : s.vm.findClass RX5 = some m.cls := hown
  replace hl : lv_has ls 2 [(0, .ref aM), (1, .int x1)] := hl
  unfold w_X5_end at hw
  refine lv_aload_n hx hb dX5_end_0 rfl (lv_at hl 0 rfl) ?_
  refine lv_iload_n hx hb dX5_end_1 rfl (lv_at hl 1 rfl) ?_
  refine lv_iconst (v := (1 : Int32)) hx hb dX5_end_2 (by decide) ?_
  refine lv_ixor hx hb dX5_end_3 ?_
  refine kc_Vi (As := [.int (x1 ^^^ (1 : Int32))]) (rest := []) (wc := wdM cI cJ cZ aM aM1 aM2 aM3 aM4 aM6 aM8 aM9 aM10 aM11 aM12 aM13 aM15 vmN vmR vmBN vmHN vmL vmLo vmHi vmC vmZ vmB vmT vmM vmK vmF vmX vmH vmRow) (wr := []) ⟨hx, hb, hml, hown, hts⟩ (cwV 1 hts gX5_end_X5_start rfl rfl rfl (by decide +kernel) ⟨Nat.le_of_ble_eq_true rfl, Nat.le_of_ble_eq_true rfl⟩) hK hN hA hP hD hS [0, 1, 2, 3, 4, 5, 6, 7, 8, 9, 10, 11, 12] [] rfl rfl (by decide) (by decide) (by decide) 0 rfl rfl (k_X5_start l G cI cJ cZ aM aM1 aM2 aM3 aM4 aM6 aM8 aM9 aM10 aM11 aM12 aM13 aM15 _ N vmN vmR vmBN vmHN vmL vmLo vmHi vmC vmZ vmB vmT vmM vmK vmF vmX vmH vmRow (x1 ^^^ (1 : Int32)) _ hw) rfl hl.1 rfl (Nat.le_of_ble_eq_true rfl) dX5_end_4 ⟨Nat.le_of_ble_eq_true rfl, Nat.le_of_ble_eq_true rfl⟩ (fun r_1 u_ H locs hw hP hD hS => ?_)
  replace hP : va_P G vwCl (wdM cI cJ cZ aM aM1 aM2 aM3 aM4 aM6 aM8 aM9 aM10 aM11 aM12 aM13 aM15 vmN vmR vmBN vmHN vmL vmLo vmHi vmC vmZ vmB vmT vmM vmK vmF vmX vmH vmRow) H := hP.sub [0, 1, 2, 3, 4, 5, 6, 7, 8, 9, 10, 11, 12] rfl
  replace hD : va_D A (wdM cI cJ cZ aM aM1 aM2 aM3 aM4 aM6 aM8 aM9 aM10 aM11 aM12 aM13 aM15 vmN vmR vmBN vmHN vmL vmLo vmHi vmC vmZ vmB vmT vmM vmK vmF vmX vmH vmRow) := hD.sub [0, 1, 2, 3, 4, 5, 6, 7, 8, 9, 10, 11, 12] (by decide) rfl
  exact hret 7 r_1 () _ _ _ dX5_end_7 hw hP hD hS
def w_X5_isLess (N : Nat) (vmT : Nat → Int64) (vmM : Nat → Int32) (x1 : Int32) (x2 : Int32) (post : Int32 → Prop) : Prop :=
  vp_in x1 4000 ∧ vp_in x2 4000 ∧ (((lg_cmp (vmT x1.toNatClampNeg) (vmT x2.toNatClampNeg)) = (0 : Int32) → (((vmM x2.toNatClampNeg) ≤ (vmM x1.toNatClampNeg) → post (0 : Int32)) ∧ (¬ ((vmM x2.toNatClampNeg) ≤ (vmM x1.toNatClampNeg)) → post (1 : Int32)))) ∧ (¬ ((lg_cmp (vmT x1.toNatClampNeg) (vmT x2.toNatClampNeg)) = (0 : Int32)) → (((0 : Int32) ≤ (lg_cmp (vmT x1.toNatClampNeg) (vmT x2.toNatClampNeg)) → post (0 : Int32)) ∧ (¬ ((0 : Int32) ≤ (lg_cmp (vmT x1.toNatClampNeg) (vmT x2.toNatClampNeg))) → post (1 : Int32)))))
abbrev rm_X5_isLess : Room := { frames := 0, cells := 0, slots := 0, locals := 0 }
set_option maxHeartbeats 4000000 in
set_option maxRecDepth 100000 in
theorem k_X5_isLess (l : Launch) (G : va_G) (cI cJ cZ : ClassId) (aM aM1 aM2 aM3 aM4 aM6 aM8 aM9 aM10 aM11 aM12 aM13 aM15 : Nat) (sz N : Nat) (vmN : Int32) (vmR : Int32) (vmBN : Int32) (vmHN : Int32) (vmL : Int32) (vmLo : Nat → Int32) (vmHi : Nat → Int32) (vmC : Nat → Int32) (vmZ : Nat → Int32) (vmB : Nat → Int32) (vmT : Nat → Int64) (vmM : Nat → Int32) (vmK : Nat → Int32) (vmF : Nat → Int32) (vmX : Nat → Int32) (vmH : Nat → Int32) (vmRow : Nat → Int32) (x1 : Int32) (x2 : Int32) (post : Int32 → Prop) (hw : w_X5_isLess N vmT vmM x1 x2 post) : Met l yX5_isLess wsX5_isLess rm_X5_isLess (kPc G (tyL cI cJ cZ) [.ref aM, .int x1, .int x2] sz (wdM cI cJ cZ aM aM1 aM2 aM3 aM4 aM6 aM8 aM9 aM10 aM11 aM12 aM13 aM15 vmN vmR vmBN vmHN vmL vmLo vmHi vmC vmZ vmB vmT vmM vmK vmF vmX vmH vmRow)) (va_Qi (fun (r : Int32) (u : Unit) => post r ) (kB G (tyL cI cJ cZ) (va_A (wdM cI cJ cZ aM aM1 aM2 aM3 aM4 aM6 aM8 aM9 aM10 aM11 aM12 aM13 aM15 vmN vmR vmBN vmHN vmL vmLo vmHi vmC vmZ vmB vmT vmM vmK vmF vmX vmH vmRow) sz) (fun (u : Unit) => wdM cI cJ cZ aM aM1 aM2 aM3 aM4 aM6 aM8 aM9 aM10 aM11 aM12 aM13 aM15 vmN vmR vmBN vmHN vmL vmLo vmHi vmC vmZ vmB vmT vmM vmK vmF vmX vmH vmRow)) (va_A (wdM cI cJ cZ aM aM1 aM2 aM3 aM4 aM6 aM8 aM9 aM10 aM11 aM12 aM13 aM15 vmN vmR vmBN vmHN vmL vmLo vmHi vmC vmZ vmB vmT vmM vmK vmF vmX vmH vmRow) sz)) 0 0 (va_A (wdM cI cJ cZ aM aM1 aM2 aM3 aM4 aM6 aM8 aM9 aM10 aM11 aM12 aM13 aM15 vmN vmR vmBN vmHN vmL vmLo vmHi vmC vmZ vmB vmT vmM vmK vmF vmX vmH vmRow) sz) := by
  refine km_z (cc := cX5_isLess) (maxL := 3) (by decide) rfl (Nat.le_of_ble_eq_true rfl) ?_
  intro p e s m below meth c A Q ls hx hb hml hts hown hnm hK hN hA hP hD hS hl hret
  replace hown : s.vm.findClass RX5 = some m.cls := hown
  replace hl : lv_has ls 3 [(0, .ref aM), (1, .int x1), (2, .int x2)] := hl
  unfold w_X5_isLess at hw
  refine lv_aload_n hx hb dX5_isLess_0 rfl (lv_at hl 0 rfl) ?_
  refine va_get (D := G) (ci := 5) (v := .ref aM8) (C := RX5) (T := TX5) (N := 17) hx hb hts (fun _ h => List.mem_cons_of_mem _ (List.mem_append_right _ h)) hown hK hP 0 rfl rfl 8 (by decide) (hts _ (List.mem_of_getElem? (i := 1) rfl)) (fun _ h9 => h9) rfl dX5_isLess_1 ?_
  refine lv_iload_n hx hb dX5_isLess_4 rfl (lv_at hl 1 rfl) ?_
  have h_1 := hw.1
  replace hw := hw.2
  refine va_lald hx hb hK hP 6 1 rfl rfl h_1 dX5_isLess_5 ?_
  refine lv_aload_n hx hb dX5_isLess_6 rfl (lv_at hl 0 rfl) ?_
  refine va_get (D := G) (ci := 5) (v := .ref aM8) (C := RX5) (T := TX5) (N := 17) hx hb hts (fun _ h => List.mem_cons_of_mem _ (List.mem_append_right _ h)) hown hK hP 0 rfl rfl 8 (by decide) (hts _ (List.mem_of_getElem? (i := 1) rfl)) (fun _ h9 => h9) rfl dX5_isLess_7 ?_
  refine lv_iload_n hx hb dX5_isLess_10 rfl (lv_at hl 2 rfl) ?_
  have h_2 := hw.1
  replace hw := hw.2
  refine va_lald hx hb hK hP 6 1 rfl rfl h_2 dX5_isLess_11 ?_
  refine W.lcmp hx hb dX5_isLess_12 ?_
  refine lv_if_eq (tgt := 40) hx hb dX5_isLess_13 (by decide) (fun c_3 => ?_) (fun c_3 => ?_)
  · replace hw := hw.1 c_3
    refine lv_aload_n hx hb dX5_isLess_40 rfl (lv_at hl 0 rfl) ?_
    refine va_get (D := G) (ci := 5) (v := .ref aM9) (C := RX5) (T := TX5) (N := 17) hx hb hts (fun _ h => List.mem_cons_of_mem _ (List.mem_append_right _ h)) hown hK hP 0 rfl rfl 9 (by decide) (hts _ (List.mem_of_getElem? (i := 2) rfl)) (fun _ h9 => h9) rfl dX5_isLess_41 ?_
    refine lv_iload_n hx hb dX5_isLess_44 rfl (lv_at hl 1 rfl) ?_
    refine va_iald hx hb hK hP 7 0 rfl rfl h_1 dX5_isLess_45 ?_
    refine lv_aload_n hx hb dX5_isLess_46 rfl (lv_at hl 0 rfl) ?_
    refine va_get (D := G) (ci := 5) (v := .ref aM9) (C := RX5) (T := TX5) (N := 17) hx hb hts (fun _ h => List.mem_cons_of_mem _ (List.mem_append_right _ h)) hown hK hP 0 rfl rfl 9 (by decide) (hts _ (List.mem_of_getElem? (i := 2) rfl)) (fun _ h9 => h9) rfl dX5_isLess_47 ?_
    refine lv_iload_n hx hb dX5_isLess_50 rfl (lv_at hl 2 rfl) ?_
    refine va_iald hx hb hK hP 7 0 rfl rfl h_2 dX5_isLess_51 ?_
    refine lv_icmp_ge (tgt := 59) hx hb dX5_isLess_52 (by decide) (fun c_4 => ?_) (fun c_4 => ?_)
    · replace hw := hw.1 c_4
      refine lv_iconst (v := (0 : Int32)) hx hb dX5_isLess_59 (by decide) ?_
      exact hret 60 (0 : Int32) () _ _ _ dX5_isLess_60 rfl hw hP hD hS
    · replace hw := hw.2 c_4
      refine lv_iconst (v := (1 : Int32)) hx hb dX5_isLess_55 (by decide) ?_
      refine lv_goto (tgt := 60) hx hb dX5_isLess_56 (by decide) ?_
      exact hret 60 (1 : Int32) () _ _ _ dX5_isLess_60 rfl hw hP hD hS
  · replace hw := hw.2 c_3
    refine lv_aload_n hx hb dX5_isLess_16 rfl (lv_at hl 0 rfl) ?_
    refine va_get (D := G) (ci := 5) (v := .ref aM8) (C := RX5) (T := TX5) (N := 17) hx hb hts (fun _ h => List.mem_cons_of_mem _ (List.mem_append_right _ h)) hown hK hP 0 rfl rfl 8 (by decide) (hts _ (List.mem_of_getElem? (i := 1) rfl)) (fun _ h9 => h9) rfl dX5_isLess_17 ?_
    refine lv_iload_n hx hb dX5_isLess_20 rfl (lv_at hl 1 rfl) ?_
    refine va_lald hx hb hK hP 6 1 rfl rfl h_1 dX5_isLess_21 ?_
    refine lv_aload_n hx hb dX5_isLess_22 rfl (lv_at hl 0 rfl) ?_
    refine va_get (D := G) (ci := 5) (v := .ref aM8) (C := RX5) (T := TX5) (N := 17) hx hb hts (fun _ h => List.mem_cons_of_mem _ (List.mem_append_right _ h)) hown hK hP 0 rfl rfl 8 (by decide) (hts _ (List.mem_of_getElem? (i := 1) rfl)) (fun _ h9 => h9) rfl dX5_isLess_23 ?_
    refine lv_iload_n hx hb dX5_isLess_26 rfl (lv_at hl 2 rfl) ?_
    refine va_lald hx hb hK hP 6 1 rfl rfl h_2 dX5_isLess_27 ?_
    refine W.lcmp hx hb dX5_isLess_28 ?_
    refine lv_if_ge (tgt := 36) hx hb dX5_isLess_29 (by decide) (fun c_5 => ?_) (fun c_5 => ?_)
    · replace hw := hw.1 c_5
      refine lv_iconst (v := (0 : Int32)) hx hb dX5_isLess_36 (by decide) ?_
      refine lv_goto (tgt := 60) hx hb dX5_isLess_37 (by decide) ?_
      exact hret 60 (0 : Int32) () _ _ _ dX5_isLess_60 rfl hw hP hD hS
    · replace hw := hw.2 c_5
      refine lv_iconst (v := (1 : Int32)) hx hb dX5_isLess_32 (by decide) ?_
      refine lv_goto (tgt := 60) hx hb dX5_isLess_33 (by decide) ?_
      exact hret 60 (1 : Int32) () _ _ _ dX5_isLess_60 rfl hw hP hD hS
def w_X5_length (N : Nat) (vmL : Int32)  (post : Int32 → Prop) : Prop :=
  post vmL
abbrev rm_X5_length : Room := { frames := 0, cells := 0, slots := 0, locals := 0 }
set_option maxHeartbeats 4000000 in
set_option maxRecDepth 100000 in
theorem k_X5_length (l : Launch) (G : va_G) (cI cJ cZ : ClassId) (aM aM1 aM2 aM3 aM4 aM6 aM8 aM9 aM10 aM11 aM12 aM13 aM15 : Nat) (sz N : Nat) (vmN : Int32) (vmR : Int32) (vmBN : Int32) (vmHN : Int32) (vmL : Int32) (vmLo : Nat → Int32) (vmHi : Nat → Int32) (vmC : Nat → Int32) (vmZ : Nat → Int32) (vmB : Nat → Int32) (vmT : Nat → Int64) (vmM : Nat → Int32) (vmK : Nat → Int32) (vmF : Nat → Int32) (vmX : Nat → Int32) (vmH : Nat → Int32) (vmRow : Nat → Int32)  (post : Int32 → Prop) (hw : w_X5_length N vmL post) : Met l yX5_length wsX5_length rm_X5_length (kPc G (tyL cI cJ cZ) [.ref aM] sz (wdM cI cJ cZ aM aM1 aM2 aM3 aM4 aM6 aM8 aM9 aM10 aM11 aM12 aM13 aM15 vmN vmR vmBN vmHN vmL vmLo vmHi vmC vmZ vmB vmT vmM vmK vmF vmX vmH vmRow)) (va_Qi (fun (r : Int32) (u : Unit) => post r ) (kB G (tyL cI cJ cZ) (va_A (wdM cI cJ cZ aM aM1 aM2 aM3 aM4 aM6 aM8 aM9 aM10 aM11 aM12 aM13 aM15 vmN vmR vmBN vmHN vmL vmLo vmHi vmC vmZ vmB vmT vmM vmK vmF vmX vmH vmRow) sz) (fun (u : Unit) => wdM cI cJ cZ aM aM1 aM2 aM3 aM4 aM6 aM8 aM9 aM10 aM11 aM12 aM13 aM15 vmN vmR vmBN vmHN vmL vmLo vmHi vmC vmZ vmB vmT vmM vmK vmF vmX vmH vmRow)) (va_A (wdM cI cJ cZ aM aM1 aM2 aM3 aM4 aM6 aM8 aM9 aM10 aM11 aM12 aM13 aM15 vmN vmR vmBN vmHN vmL vmLo vmHi vmC vmZ vmB vmT vmM vmK vmF vmX vmH vmRow) sz)) 0 0 (va_A (wdM cI cJ cZ aM aM1 aM2 aM3 aM4 aM6 aM8 aM9 aM10 aM11 aM12 aM13 aM15 vmN vmR vmBN vmHN vmL vmLo vmHi vmC vmZ vmB vmT vmM vmK vmF vmX vmH vmRow) sz) := by
  refine km_i (cc := cX5_length) (maxL := 1) (by decide) rfl (Nat.le_of_ble_eq_true rfl) ?_
  intro p e s m below meth c A Q ls hx hb hml hts hown hnm hK hN hA hP hD hS hl hret
  replace hown : s.vm.findClass RX5 = some m.cls := hown
  replace hl : lv_has ls 1 [(0, .ref aM)] := hl
  unfold w_X5_length at hw
  refine lv_aload_n hx hb dX5_length_0 rfl (lv_at hl 0 rfl) ?_
  refine va_get (D := G) (ci := 5) (v := .int vmL) (C := RX5) (T := TX5) (N := 17) hx hb hts (fun _ h => List.mem_cons_of_mem _ (List.mem_append_right _ h)) hown hK hP 0 rfl rfl 16 (by decide) (hts _ (List.mem_of_getElem? (i := 1) rfl)) (fun _ h9 => h9) rfl dX5_length_1 ?_
  exact hret 4 vmL () _ _ _ dX5_length_4 hw hP hD hS
def w_X5_node (N : Nat) (vmL : Int32) (vmRow : Nat → Int32) (x1 : Int32) (post : Int32 → Prop) : Prop :=
  ((x1 < (0 : Int32) → post (-1 : Int32)) ∧ (¬ (x1 < (0 : Int32)) → ((vmL ≤ x1 → post (-1 : Int32)) ∧ (¬ (vmL ≤ x1) → vp_in x1 4001 ∧ post (vmRow x1.toNatClampNeg)))))
abbrev rm_X5_node : Room := { frames := 0, cells := 0, slots := 0, locals := 0 }
set_option maxHeartbeats 4000000 in
set_option maxRecDepth 100000 in
theorem k_X5_node (l : Launch) (G : va_G) (cI cJ cZ : ClassId) (aM aM1 aM2 aM3 aM4 aM6 aM8 aM9 aM10 aM11 aM12 aM13 aM15 : Nat) (sz N : Nat) (vmN : Int32) (vmR : Int32) (vmBN : Int32) (vmHN : Int32) (vmL : Int32) (vmLo : Nat → Int32) (vmHi : Nat → Int32) (vmC : Nat → Int32) (vmZ : Nat → Int32) (vmB : Nat → Int32) (vmT : Nat → Int64) (vmM : Nat → Int32) (vmK : Nat → Int32) (vmF : Nat → Int32) (vmX : Nat → Int32) (vmH : Nat → Int32) (vmRow : Nat → Int32) (x1 : Int32) (post : Int32 → Prop) (hw : w_X5_node N vmL vmRow x1 post) : Met l yX5_node wsX5_node rm_X5_node (kPc G (tyL cI cJ cZ) [.ref aM, .int x1] sz (wdM cI cJ cZ aM aM1 aM2 aM3 aM4 aM6 aM8 aM9 aM10 aM11 aM12 aM13 aM15 vmN vmR vmBN vmHN vmL vmLo vmHi vmC vmZ vmB vmT vmM vmK vmF vmX vmH vmRow)) (va_Qi (fun (r : Int32) (u : Unit) => post r ) (kB G (tyL cI cJ cZ) (va_A (wdM cI cJ cZ aM aM1 aM2 aM3 aM4 aM6 aM8 aM9 aM10 aM11 aM12 aM13 aM15 vmN vmR vmBN vmHN vmL vmLo vmHi vmC vmZ vmB vmT vmM vmK vmF vmX vmH vmRow) sz) (fun (u : Unit) => wdM cI cJ cZ aM aM1 aM2 aM3 aM4 aM6 aM8 aM9 aM10 aM11 aM12 aM13 aM15 vmN vmR vmBN vmHN vmL vmLo vmHi vmC vmZ vmB vmT vmM vmK vmF vmX vmH vmRow)) (va_A (wdM cI cJ cZ aM aM1 aM2 aM3 aM4 aM6 aM8 aM9 aM10 aM11 aM12 aM13 aM15 vmN vmR vmBN vmHN vmL vmLo vmHi vmC vmZ vmB vmT vmM vmK vmF vmX vmH vmRow) sz)) 0 0 (va_A (wdM cI cJ cZ aM aM1 aM2 aM3 aM4 aM6 aM8 aM9 aM10 aM11 aM12 aM13 aM15 vmN vmR vmBN vmHN vmL vmLo vmHi vmC vmZ vmB vmT vmM vmK vmF vmX vmH vmRow) sz) := by
  refine km_i (cc := cX5_node) (maxL := 2) (by decide) rfl (Nat.le_of_ble_eq_true rfl) ?_
  intro p e s m below meth c A Q ls hx hb hml hts hown hnm hK hN hA hP hD hS hl hret
  replace hown : s.vm.findClass RX5 = some m.cls := hown
  replace hl : lv_has ls 2 [(0, .ref aM), (1, .int x1)] := hl
  unfold w_X5_node at hw
  refine lv_iload_n hx hb dX5_node_0 rfl (lv_at hl 1 rfl) ?_
  refine lv_if_lt (tgt := 21) hx hb dX5_node_1 (by decide) (fun c_1 => ?_) (fun c_1 => ?_)
  · replace hw := hw.1 c_1
    refine lv_iconst (v := (-1 : Int32)) hx hb dX5_node_21 (by decide) ?_
    exact hret 22 (-1 : Int32) () _ _ _ dX5_node_22 hw hP hD hS
  · replace hw := hw.2 c_1
    refine lv_iload_n hx hb dX5_node_4 rfl (lv_at hl 1 rfl) ?_
    refine lv_aload_n hx hb dX5_node_5 rfl (lv_at hl 0 rfl) ?_
    refine va_get (D := G) (ci := 5) (v := .int vmL) (C := RX5) (T := TX5) (N := 17) hx hb hts (fun _ h => List.mem_cons_of_mem _ (List.mem_append_right _ h)) hown hK hP 0 rfl rfl 16 (by decide) (hts _ (List.mem_of_getElem? (i := 1) rfl)) (fun _ h9 => h9) rfl dX5_node_6 ?_
    refine lv_icmp_ge (tgt := 21) hx hb dX5_node_9 (by decide) (fun c_2 => ?_) (fun c_2 => ?_)
    · replace hw := hw.1 c_2
      refine lv_iconst (v := (-1 : Int32)) hx hb dX5_node_21 (by decide) ?_
      exact hret 22 (-1 : Int32) () _ _ _ dX5_node_22 hw hP hD hS
    · replace hw := hw.2 c_2
      refine lv_aload_n hx hb dX5_node_12 rfl (lv_at hl 0 rfl) ?_
      refine va_get (D := G) (ci := 5) (v := .ref aM15) (C := RX5) (T := TX5) (N := 17) hx hb hts (fun _ h => List.mem_cons_of_mem _ (List.mem_append_right _ h)) hown hK hP 0 rfl rfl 15 (by decide) (hts _ (List.mem_of_getElem? (i := 2) rfl)) (fun _ h9 => h9) rfl dX5_node_13 ?_
      refine lv_iload_n hx hb dX5_node_16 rfl (lv_at hl 1 rfl) ?_
      have h_3 := hw.1
      replace hw := hw.2
      refine va_iald hx hb hK hP 12 0 rfl rfl h_3 dX5_node_17 ?_
      refine lv_goto (tgt := 22) hx hb dX5_node_18 (by decide) ?_
      exact hret 22 (vmRow x1.toNatClampNeg) () _ _ _ dX5_node_22 hw hP hD hS
